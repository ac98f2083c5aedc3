import java.lang.reflect.Constructor;
import java.lang.reflect.Field;
import java.lang.reflect.Method;
import java.lang.reflect.Modifier;
import java.util.Arrays;
import java.util.TreeSet;

/** The document's public face, and nothing besides it that is seen from outside. */
public final class FaceTest {
    private static final String FACE = "public static final int PeerScripts.NONE\n"
        + "public PeerScripts()\n"
        + "public boolean PeerScripts.put(char)\n"
        + "public void PeerScripts.wipe()\n"
        + "public boolean PeerScripts.rule(int,int,int,int)\n"
        + "public void PeerScripts.reset()\n"
        + "public int PeerScripts.run(int)\n"
        + "public int PeerScripts.length()\n"
        + "public int PeerScripts.at(int)\n"
        + "public int PeerScripts.used()\n"
        + "public int PeerScripts.size(int)\n"
        + "public int PeerScripts.letter(int,int)\n"
        + "public boolean PeerScripts.defined(int)\n"
        + "public int PeerScripts.peer()\n"
        + "public int PeerScripts.pending()\n"
        + "public int PeerScripts.buffered()\n"
        + "public int PeerScripts.talk()\n"
        + "public int PeerScripts.talked(int)";

    public static void main(String[] args) {
        TreeSet<String> seen = new TreeSet<>();
        for (Field field : PeerScripts.class.getDeclaredFields()) {
            if (!Modifier.isPrivate(field.getModifiers())) {
                seen.add(field.toString());
            }
        }
        for (Constructor<?> constructor : PeerScripts.class.getDeclaredConstructors()) {
            seen.add(constructor.toString());
        }
        for (Method method : PeerScripts.class.getDeclaredMethods()) {
            if (!Modifier.isPrivate(method.getModifiers())) {
                seen.add(method.toString());
            }
        }
        Check.same("the face", seen, new TreeSet<>(Arrays.asList(FACE.split("\n"))));
        Check.same("the class is public and final", PeerScripts.class.getModifiers(), Modifier.PUBLIC | Modifier.FINAL);
        Check.same("NONE", PeerScripts.NONE, -1);
        Check.end();
    }
}

/** A PeerScripts with whole texts and values in place of single characters. */
final class Lab {
    final PeerScripts x = new PeerScripts();

    static Lab with(String text) {
        Lab lab = new Lab();
        lab.put(text);
        return lab;
    }

    void put(String text) {
        for (int i = 0; i < text.length(); i++) {
            Check.same("put " + (int) text.charAt(i), x.put(text.charAt(i)), true);
        }
    }

    /** A new text in place of the old one. */
    void say(String text) {
        x.wipe();
        put(text);
    }

    String result() {
        StringBuilder all = new StringBuilder();
        for (int k = 0; k < x.length(); k++) {
            all.append((char) x.at(k));
        }
        return all.toString();
    }

    /** The global variable of this name, or null. */
    String variable(char name) {
        if (x.size(name - 'a') == PeerScripts.NONE) {
            return null;
        }
        StringBuilder all = new StringBuilder();
        for (int k = 0; k < x.size(name - 'a'); k++) {
            all.append((char) x.letter(name - 'a', k));
        }
        return all.toString();
    }

    /** The code, the result behind a colon, and the fuel used behind a slash. */
    String run(int fuel) {
        int code = x.run(fuel);
        return code + ":" + result() + "/" + x.used();
    }

    /** What the latest characters of the talk are, the latest first; those of the peer have a ' before them. */
    String latest(int many) {
        StringBuilder all = new StringBuilder();
        for (int k = 0; k < many; k++) {
            int c = x.talked(k);
            all.append(c >= 256 ? "'" : "").append(c == 0 ? '#' : (char) (c % 256));
        }
        return all.toString();
    }
}

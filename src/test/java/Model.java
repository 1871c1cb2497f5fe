import java.util.Arrays;
import java.util.BitSet;
import java.util.TreeMap;

/** The document told once more, as plainly as the Java library lets it, to compare long runs with. */
final class Model {
    private static final int REFUSED = -1, NONE = -2, EXISTS = -3, FULL = -4;

    private static final class Entry {
        int id;
        byte[] bytes = new byte[0];
        BitSet laid = new BitSet();
    }

    // Texts of characters 0 to 255 are ordered as their bytes are.
    private final TreeMap<String, Entry> files = new TreeMap<>();
    private final String[] names = {"", ""};
    private String tape = "";
    private String told = "";
    private int operations = 0;

    int feed(int... words) {
        if (tape.length() + 20 > 2048) {
            return FULL;
        }
        StringBuilder longer = new StringBuilder(tape);
        for (int word : words) {
            for (int i = 0; i < 4; i++) {
                longer.append((char) (word >> 24 - 8 * i & 255));
            }
        }
        tape = longer.toString();
        return tape.length();
    }

    int end(int n) {
        if (n < 0 || n > tape.length()) {
            return REFUSED;
        }
        tape = tape.substring(0, n);
        return n;
    }

    int name(int k) {
        if (k != 0 && k != 1 || tape.length() > 200) {
            return REFUSED;
        }
        names[k] = tape;
        tape = "";
        return names[k].length();
    }

    int run(int kind, int a, int b) {
        boolean badPlace = (kind == 1 || kind == 3 || kind == 4) && (a < 0 || a > 8192);
        boolean badLength = kind == 4 && (b < 0 || b > 2048);
        boolean noName = names[0].isEmpty() && kind != 9 || names[1].isEmpty() && (kind == 6 || kind == 7);
        if (kind < 0 || kind > 9 || badPlace || badLength || noName) {
            return REFUSED;
        }
        told = "";
        int answer = operation(kind, a, b);
        operations++;
        return answer;
    }

    private int operation(int kind, int a, int b) {
        if (kind == 9) {
            String next = files.higherKey(names[0]);
            told = next == null ? "" : next;
            return next == null ? NONE : next.length();
        }
        Entry entry = files.get(names[0]);
        if (kind == 0) {
            return entry != null ? EXISTS : make() == null ? FULL : 0;
        }
        if (kind == 1 || kind == 2) {
            String written = tape;
            tape = "";
            return write(entry, kind == 1 ? a : entry == null ? 0 : entry.bytes.length, written);
        }
        if (entry == null) {
            return NONE;
        }
        int size = entry.bytes.length;
        switch (kind) {
            case 3:
                return resize(entry, a) ? size : FULL;
            case 4:
                int past = Math.min(size, a + b);
                told = a < past ? Due.text(Arrays.copyOfRange(entry.bytes, a, past)) : "";
                return told.length();
            case 5:
                files.remove(names[0]);
                return size;
            case 6:
                if (names[0].equals(names[1])) {
                    return 0;
                }
                files.remove(names[0]);
                return files.put(names[1], entry) == null ? 0 : 1;
            case 7:
                if (!files.containsKey(names[1])) {
                    return NONE;
                }
                files.put(names[0], files.get(names[1]));
                files.put(names[1], entry);
                return 0;
            default:
                return size;
        }
    }

    private Entry make() {
        if (files.size() == 48) {
            return null;
        }
        Entry made = new Entry();
        made.id = operations;
        files.put(names[0], made);
        return made;
    }

    private int write(Entry found, int from, String written) {
        Entry entry = found == null ? make() : found;
        if (entry == null) {
            return FULL;
        }
        int past = from + written.length();
        if (!written.isEmpty() && past > entry.bytes.length && !resize(entry, past)) {
            if (found == null) {
                files.remove(names[0]);
            }
            return FULL;
        }
        for (int i = from; i < past; i++) {
            entry.bytes[i] = (byte) written.charAt(i - from);
            entry.laid.set(i / 448);
        }
        return written.length();
    }

    private boolean resize(Entry entry, int size) {
        if (size > 8192 || size > entry.bytes.length && count(1) - entry.bytes.length + size > 32768) {
            return false;
        }
        entry.bytes = Arrays.copyOf(entry.bytes, size);
        entry.laid.clear((size + 447) / 448, 100);
        return true;
    }

    int told(int i) {
        return i >= 0 && i < told.length() ? told.charAt(i) : NONE;
    }

    int file(int k, int what) {
        if (what < 0 || what > 3) {
            return REFUSED;
        }
        if (k < 0 || k >= files.size()) {
            return NONE;
        }
        String name = files.keySet().toArray(new String[0])[k];
        Entry entry = files.get(name);
        int[] answers = {entry.bytes.length, entry.id, name.length(), entry.laid.cardinality()};
        return answers[what];
    }

    int piece(int k, int s, int i) {
        if (k < 0 || k >= files.size() || s < 0 || i < 0 || i > 447) {
            return NONE;
        }
        Entry entry = files.values().toArray(new Entry[0])[k];
        long at = 448L * s + i;
        return at < entry.bytes.length && entry.laid.get(s) ? entry.bytes[(int) at] & 255 : NONE;
    }

    int count(int what) {
        int bytes = 0;
        int laid = 0;
        for (Entry entry : files.values()) {
            bytes += entry.bytes.length;
            laid += entry.laid.cardinality();
        }
        int[] answers = {files.size(), bytes, laid, operations, tape.length()};
        return what < 0 || what > 4 ? REFUSED : answers[what];
    }
}

import java.util.ArrayList;
import java.util.Arrays;

/** Files in stripes of 448 bytes, of which those that nobody wrote are not kept. */
public final class StripeFiles {
    public static final int REFUSED = -1, NONE = -2, EXISTS = -3, FULL = -4;

    private static final int MAKE = 0, WRITE = 1, APPEND = 2, CUT = 3, READ = 4;
    private static final int REMOVE = 5, RENAME = 6, SWAP = 7, SIZE = 8, NEXT = 9;

    private static final int TAPE_BYTES = 2048;
    private static final int TOLD_BYTES = 2048;
    private static final int NAME_BYTES = 200;
    private static final int FEED_BYTES = 20;
    private static final int MOST_FILES = 48;
    private static final int FILE_BYTES = 8192;
    private static final int ALL_BYTES = 32768;
    private static final int STRIPE_BYTES = 448;
    private static final int FILE_STRIPES = (FILE_BYTES + STRIPE_BYTES - 1) / STRIPE_BYTES;

    private final Row tape;
    private final Row firstName;
    private final Row secondName;
    private final Row latestTold;
    private final Shelf shelf;
    private int operations;

    public StripeFiles() {
        tape = new Row(TAPE_BYTES);
        firstName = new Row(NAME_BYTES);
        secondName = new Row(NAME_BYTES);
        latestTold = new Row(TOLD_BYTES);
        shelf = new Shelf();
        operations = 0;
    }

    public int feed(int a, int b, int c, int d, int e) {
        if (tape.length() + FEED_BYTES > TAPE_BYTES) {
            return FULL;
        }
        tape.addWord(a);
        tape.addWord(b);
        tape.addWord(c);
        tape.addWord(d);
        tape.addWord(e);
        return tape.length();
    }

    public int end(int n) {
        if (!isWithin(n, tape.length())) {
            return REFUSED;
        }
        tape.shorten(n);
        return n;
    }

    public int name(int k) {
        if (!isWithin(k, 1) || tape.length() > NAME_BYTES) {
            return REFUSED;
        }
        Row named = k == 0 ? firstName : secondName;
        named.become(tape);
        tape.shorten(0);
        return named.length();
    }

    public int run(int kind, int a, int b) {
        if (isRefused(kind, a, b)) {
            return REFUSED;
        }
        int number = operations;
        operations = operations + 1;
        latestTold.shorten(0);
        switch (kind) {
            case MAKE:
                return makeFile(number);
            case WRITE:
            case APPEND:
                return writeTape(kind, a, number);
            case RENAME:
                return renameFile();
            case SWAP:
                return swapFiles();
            case NEXT:
                return tellNextName();
            default:
                return runOnFile(kind, a, b);
        }
    }

    public int told(int i) {
        return latestTold.byteAt(i);
    }

    public int file(int k, int what) {
        if (!isWithin(what, 3)) {
            return REFUSED;
        }
        StripedFile found = shelf.fileAt(k);
        if (found == null) {
            return NONE;
        }
        switch (what) {
            case 0:
                return found.length();
            case 1:
                return found.id();
            case 2:
                return found.title().length();
            default:
                return found.laidStripes();
        }
    }

    public int piece(int k, int s, int i) {
        StripedFile found = shelf.fileAt(k);
        if (found == null) {
            return NONE;
        }
        return found.keptByte(s, i);
    }

    public int count(int what) {
        switch (what) {
            case 0:
                return shelf.size();
            case 1:
                return shelf.allBytes();
            case 2:
                return shelf.laidStripes();
            case 3:
                return operations;
            case 4:
                return tape.length();
            default:
                return REFUSED;
        }
    }

    private boolean isRefused(int kind, int a, int b) {
        if (!isWithin(kind, NEXT)) {
            return true;
        }
        if (kind != NEXT && firstName.isEmpty()) {
            return true;
        }
        if ((kind == RENAME || kind == SWAP) && secondName.isEmpty()) {
            return true;
        }
        if ((kind == WRITE || kind == CUT || kind == READ) && !isWithin(a, FILE_BYTES)) {
            return true;
        }
        return kind == READ && !isWithin(b, TOLD_BYTES);
    }

    private static boolean isWithin(int value, int most) {
        return value >= 0 && value <= most;
    }

    private int makeFile(int number) {
        if (shelf.find(firstName) != null) {
            return EXISTS;
        }
        if (shelf.isFull()) {
            return FULL;
        }
        shelf.make(firstName, number);
        return 0;
    }

    private int writeTape(int kind, int a, int number) {
        StripedFile found = shelf.find(firstName);
        int before = found == null ? 0 : found.length();
        int from = kind == APPEND ? before : a;
        int after = tape.isEmpty() ? before : Math.max(before, from + tape.length());
        boolean hasPlace = found != null || !shelf.isFull();
        int answer = FULL;
        if (hasPlace && shelf.hasRoom(before, after)) {
            StripedFile target = found == null ? shelf.make(firstName, number) : found;
            target.write(from, tape);
            answer = tape.length();
        }
        tape.shorten(0);
        return answer;
    }

    /** The operations that need the file of NAME 0 and touch no other. */
    private int runOnFile(int kind, int a, int b) {
        StripedFile found = shelf.find(firstName);
        if (found == null) {
            return NONE;
        }
        int before = found.length();
        switch (kind) {
            case CUT:
                return cutFile(found, a);
            case READ:
                found.read(a, b, latestTold);
                return latestTold.length();
            case REMOVE:
                shelf.remove(firstName);
                return before;
            case SIZE:
            default:
                return before;
        }
    }

    private int cutFile(StripedFile target, int a) {
        int before = target.length();
        if (a > before && !shelf.hasRoom(before, a)) {
            return FULL;
        }
        target.cut(a);
        return before;
    }

    private int renameFile() {
        if (shelf.find(firstName) == null) {
            return NONE;
        }
        // The file would else be taken for the one that its new name drives out.
        if (firstName.compareWith(secondName) == 0) {
            return 0;
        }
        boolean drivesOut = shelf.remove(secondName);
        shelf.rename(firstName, secondName);
        return drivesOut ? 1 : 0;
    }

    private int swapFiles() {
        return shelf.swap(firstName, secondName) ? 0 : NONE;
    }

    private int tellNextName() {
        StripedFile next = shelf.findAfter(firstName);
        if (next == null) {
            return NONE;
        }
        latestTold.become(next.title());
        return latestTold.length();
    }

    /** Bytes in a row that is made once, of which the first some count. */
    private static final class Row {
        private final byte[] bytes;
        private int length;

        Row(int most) {
            bytes = new byte[most];
            length = 0;
        }

        int length() {
            return length;
        }

        boolean isEmpty() {
            return length == 0;
        }

        int byteAt(int i) {
            return i >= 0 && i < length ? bytes[i] & 255 : NONE;
        }

        void shorten(int n) {
            length = n;
        }

        void addWord(int word) {
            for (int shift = 24; shift >= 0; shift -= 8) {
                bytes[length] = (byte) (word >>> shift);
                length++;
            }
        }

        void addBytes(byte[] source, int from, int n) {
            System.arraycopy(source, from, bytes, length, n);
            length += n;
        }

        void addZeros(int n) {
            Arrays.fill(bytes, length, length + n, (byte) 0);
            length += n;
        }

        void become(Row other) {
            length = 0;
            addBytes(other.bytes, 0, other.length);
        }

        void copyTo(byte[] target, int at, int from, int n) {
            System.arraycopy(bytes, from, target, at, n);
        }

        /** Below 0, 0 or above 0, as this row stands before the other, is the same, or stands behind it. */
        int compareWith(Row other) {
            int shared = Math.min(length, other.length);
            for (int i = 0; i < shared; i++) {
                int difference = (bytes[i] & 255) - (other.bytes[i] & 255);
                if (difference != 0) {
                    return difference;
                }
            }
            return length - other.length;
        }
    }

    /** What is kept of one laid stripe; its bytes beyond the end of the file are 0. */
    private static final class Piece {
        private final byte[] bytes;

        Piece() {
            bytes = new byte[STRIPE_BYTES];
        }
    }

    /** Hands pieces out and takes them back, so that no more are made than stand at once. */
    private static final class PiecePool {
        private final ArrayList<Piece> spare;

        PiecePool() {
            spare = new ArrayList<>();
        }

        Piece takeBlank() {
            if (spare.isEmpty()) {
                return new Piece();
            }
            return spare.remove(spare.size() - 1);
        }

        void giveBack(Piece gone) {
            Arrays.fill(gone.bytes, 0, STRIPE_BYTES, (byte) 0);
            spare.add(gone);
        }
    }

    /** One file: its pieces stand at the numbers of their stripes, null where a stripe is not laid. */
    private static final class StripedFile {
        private final PiecePool pool;
        private final Row title;
        private final Piece[] pieces;
        private int id;
        private int length;

        StripedFile(PiecePool pool) {
            this.pool = pool;
            title = new Row(NAME_BYTES);
            pieces = new Piece[FILE_STRIPES];
            id = 0;
            length = 0;
        }

        void begin(Row newTitle, int newId) {
            title.become(newTitle);
            id = newId;
        }

        Row title() {
            return title;
        }

        int id() {
            return id;
        }

        int length() {
            return length;
        }

        int laidStripes() {
            int laid = 0;
            for (int s = 0; s < FILE_STRIPES; s++) {
                if (pieces[s] != null) {
                    laid++;
                }
            }
            return laid;
        }

        int keptByte(int s, int i) {
            if (s < 0 || s >= FILE_STRIPES || i < 0 || i >= STRIPE_BYTES) {
                return NONE;
            }
            Piece kept = pieces[s];
            if (kept == null || s * STRIPE_BYTES + i >= length) {
                return NONE;
            }
            return kept.bytes[i] & 255;
        }

        void write(int from, Row source) {
            int past = from + source.length();
            for (int s = 0; s < FILE_STRIPES; s++) {
                int start = s * STRIPE_BYTES;
                int low = Math.max(from, start);
                int high = Math.min(past, start + STRIPE_BYTES);
                if (low < high) {
                    source.copyTo(lay(s).bytes, low - start, low - from, high - low);
                }
            }
            if (!source.isEmpty()) {
                length = Math.max(length, past);
            }
        }

        private Piece lay(int s) {
            if (pieces[s] == null) {
                pieces[s] = pool.takeBlank();
            }
            return pieces[s];
        }

        void read(int from, int most, Row target) {
            int past = Math.min(length, from + most);
            for (int s = 0; s < FILE_STRIPES; s++) {
                int start = s * STRIPE_BYTES;
                int low = Math.max(from, start);
                int high = Math.min(past, start + STRIPE_BYTES);
                if (low < high) {
                    tell(s, low - start, high - low, target);
                }
            }
        }

        private void tell(int s, int from, int n, Row target) {
            Piece kept = pieces[s];
            if (kept == null) {
                target.addZeros(n);
            } else {
                target.addBytes(kept.bytes, from, n);
            }
        }

        void cut(int newLength) {
            for (int s = 0; s < FILE_STRIPES; s++) {
                cutStripe(s, newLength - s * STRIPE_BYTES);
            }
            length = newLength;
        }

        private void cutStripe(int s, int left) {
            Piece kept = pieces[s];
            if (kept == null || left >= STRIPE_BYTES) {
                return;
            }
            if (left > 0) {
                // What is cut off must be 0 if the file grows over it again.
                Arrays.fill(kept.bytes, left, STRIPE_BYTES, (byte) 0);
            } else {
                pieces[s] = null;
                pool.giveBack(kept);
            }
        }
    }

    /** The files in the order of their names. */
    private static final class Shelf {
        private final ArrayList<StripedFile> ordered;
        private final ArrayList<StripedFile> spare;
        private final PiecePool pool;

        Shelf() {
            ordered = new ArrayList<>();
            spare = new ArrayList<>();
            pool = new PiecePool();
        }

        int size() {
            return ordered.size();
        }

        boolean isFull() {
            return ordered.size() >= MOST_FILES;
        }

        int allBytes() {
            int bytes = 0;
            for (int k = 0; k < ordered.size(); k++) {
                bytes += ordered.get(k).length();
            }
            return bytes;
        }

        int laidStripes() {
            int laid = 0;
            for (int k = 0; k < ordered.size(); k++) {
                laid += ordered.get(k).laidStripes();
            }
            return laid;
        }

        boolean hasRoom(int before, int after) {
            return after <= FILE_BYTES && allBytes() - before + after <= ALL_BYTES;
        }

        StripedFile fileAt(int k) {
            return k >= 0 && k < ordered.size() ? ordered.get(k) : null;
        }

        StripedFile find(Row title) {
            return fileAt(indexOf(title));
        }

        StripedFile findAfter(Row title) {
            int place = placeOf(title);
            return fileAt(isAt(place, title) ? place + 1 : place);
        }

        StripedFile make(Row title, int id) {
            StripedFile made = spare.isEmpty() ? new StripedFile(pool) : spare.remove(spare.size() - 1);
            made.begin(title, id);
            ordered.add(placeOf(title), made);
            return made;
        }

        /** True if there was a file of this title. */
        boolean remove(Row title) {
            int place = indexOf(title);
            if (place < 0) {
                return false;
            }
            StripedFile gone = ordered.remove(place);
            gone.cut(0);
            spare.add(gone);
            return true;
        }

        /** There must be no file of the new title. */
        void rename(Row title, Row newTitle) {
            int place = indexOf(title);
            if (place < 0) {
                return;
            }
            StripedFile moved = ordered.remove(place);
            moved.title().become(newTitle);
            ordered.add(placeOf(newTitle), moved);
        }

        /** False, and nothing done, if a file of one of the titles is not there. */
        boolean swap(Row title, Row otherTitle) {
            int place = indexOf(title);
            int otherPlace = indexOf(otherTitle);
            if (place < 0 || otherPlace < 0) {
                return false;
            }
            StripedFile one = ordered.get(place);
            StripedFile other = ordered.get(otherPlace);
            one.title().become(otherTitle);
            other.title().become(title);
            ordered.set(place, other);
            ordered.set(otherPlace, one);
            return true;
        }

        private int indexOf(Row title) {
            int place = placeOf(title);
            return isAt(place, title) ? place : NONE;
        }

        private boolean isAt(int place, Row title) {
            return place < ordered.size() && ordered.get(place).title().compareWith(title) == 0;
        }

        /** How many files have a title that stands before this one. */
        private int placeOf(Row title) {
            int place = 0;
            while (place < ordered.size() && ordered.get(place).title().compareWith(title) < 0) {
                place++;
            }
            return place;
        }
    }
}

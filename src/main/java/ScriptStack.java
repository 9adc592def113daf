/** Scripts of bytes that prove that one may spend; the document's promises are named at each method. */
public final class ScriptStack {
    public static final int REFUSED = -1, NONE = -2, FULL = -3;

    private static final int TAPE_LIMIT = 400;
    private static final int SCRIPT_LIMIT = 80;
    private static final int KEY_LIMIT = 80;
    private static final int HASH_SIZE = 32;
    private static final int SIGNATURE_SIZE = 8;
    private static final int FED_BYTES = 20;

    private final Row tape;
    private final Row out;
    private final Row firstScript;
    private final Row secondScript;
    private final Runner runner;
    private final Elements stack;
    private final Signer signer;
    private final Sha256 hasher;
    private boolean nothingFailed;

    /** Promise 1. */
    public ScriptStack() {
        tape = new Row(TAPE_LIMIT);
        out = new Row(HASH_SIZE);
        firstScript = new Row(SCRIPT_LIMIT);
        secondScript = new Row(SCRIPT_LIMIT);
        runner = new Runner();
        stack = runner.stack;
        signer = runner.signer;
        hasher = signer.hasher;
        // before the first run there is nothing to tell, just as after a failure
        nothingFailed = false;
    }

    /** Promise 2. */
    public int feed(int a, int b, int c, int d, int e) {
        if (!tape.hasRoomFor(FED_BYTES)) {
            return FULL;
        }
        tape.addWord(a);
        tape.addWord(b);
        tape.addWord(c);
        tape.addWord(d);
        tape.addWord(e);
        return tape.size;
    }

    /** Promise 3. */
    public int end(int n) {
        if (n < 0 || n > tape.size) {
            return REFUSED;
        }
        tape.size = n;
        return n;
    }

    /** Promise 4. */
    public int script(int which) {
        if (which < 0 || which > 1 || tape.size > SCRIPT_LIMIT) {
            return REFUSED;
        }
        Row target = which == 0 ? firstScript : secondScript;
        target.become(tape.bytes, tape.size);
        tape.size = 0;
        return target.size;
    }

    /** Promise 5. */
    public int message() {
        int had = tape.size;
        hasher.hash(tape.bytes, 0, had, signer.message, 0);
        tape.size = 0;
        return had;
    }

    /** Promise 6. */
    public boolean run(int height) {
        stack.count = 0;
        nothingFailed = runner.runScript(firstScript, height) && runner.runScript(secondScript, height);
        return nothingFailed && stack.isTrue(stack.count - 1);
    }

    /** Promise 7. */
    public int depth() {
        return nothingFailed ? stack.count : NONE;
    }

    /** Promise 8. */
    public int element(int k, int i) {
        if (!nothingFailed || !stack.has(k)) {
            return NONE;
        }
        if (i == -1) {
            return stack.sizes[k];
        }
        if (i < 0 || i >= stack.sizes[k]) {
            return NONE;
        }
        return stack.bytes[stack.place(k) + i] & 255;
    }

    /** Promise 9. */
    public int sha() {
        hasher.digest(tape.bytes, 0, tape.size, out.bytes, 0);
        out.size = HASH_SIZE;
        tape.size = 0;
        return out.size;
    }

    /** Promise 10. */
    public int sign() {
        if (tape.size > KEY_LIMIT) {
            return REFUSED;
        }
        signer.make(tape.bytes, 0, tape.size);
        out.become(signer.made, SIGNATURE_SIZE);
        tape.size = 0;
        return out.size;
    }

    /** Promise 11. */
    public int back() {
        if (!tape.hasRoomFor(1 + out.size)) {
            return FULL;
        }
        tape.addByte(out.size);
        for (int i = 0; i < out.size; i++) {
            tape.addByte(out.bytes[i]);
        }
        return tape.size;
    }

    /** Promise 12. */
    public int octet(int i) {
        return i < 0 || i >= out.size ? NONE : out.bytes[i] & 255;
    }

    /** Bytes, as many as size tells, in an array that is made once and used again. */
    private static final class Row {
        final byte[] bytes;
        int size;

        Row(int limit) {
            bytes = new byte[limit];
            size = 0;
        }

        boolean hasRoomFor(int more) {
            return more <= bytes.length - size;
        }

        void addByte(int value) {
            if (size < bytes.length) {
                bytes[size] = (byte) value;
                size++;
            }
        }

        void addWord(int word) {
            addByte(word >>> 24);
            addByte(word >>> 16);
            addByte(word >>> 8);
            addByte(word);
        }

        void become(byte[] from, int count) {
            size = Math.min(count, bytes.length);
            System.arraycopy(from, 0, bytes, 0, size);
        }
    }

    /** SHA-256 of FIPS 180-4, and the document's HASH, which is SHA-256 twice. */
    private static final class Sha256 {
        private static final int BLOCK = 64;
        // the length in bits stands in the last 8 bytes of the last block
        private static final int LENGTH_BYTES = 8;

        private static final int[] START = {
            0x6a09e667, 0xbb67ae85, 0x3c6ef372, 0xa54ff53a, 0x510e527f, 0x9b05688c, 0x1f83d9ab, 0x5be0cd19
        };

        private static final int[] ROUND = {
            0x428a2f98, 0x71374491, 0xb5c0fbcf, 0xe9b5dba5, 0x3956c25b, 0x59f111f1, 0x923f82a4, 0xab1c5ed5,
            0xd807aa98, 0x12835b01, 0x243185be, 0x550c7dc3, 0x72be5d74, 0x80deb1fe, 0x9bdc06a7, 0xc19bf174,
            0xe49b69c1, 0xefbe4786, 0x0fc19dc6, 0x240ca1cc, 0x2de92c6f, 0x4a7484aa, 0x5cb0a9dc, 0x76f988da,
            0x983e5152, 0xa831c66d, 0xb00327c8, 0xbf597fc7, 0xc6e00bf3, 0xd5a79147, 0x06ca6351, 0x14292967,
            0x27b70a85, 0x2e1b2138, 0x4d2c6dfc, 0x53380d13, 0x650a7354, 0x766a0abb, 0x81c2c92e, 0x92722c85,
            0xa2bfe8a1, 0xa81a664b, 0xc24b8b70, 0xc76c51a3, 0xd192e819, 0xd6990624, 0xf40e3585, 0x106aa070,
            0x19a4c116, 0x1e376c08, 0x2748774c, 0x34b0bcb5, 0x391c0cb3, 0x4ed8aa4a, 0x5b9cca4f, 0x682e6ff3,
            0x748f82ee, 0x78a5636f, 0x84c87814, 0x8cc70208, 0x90befffa, 0xa4506ceb, 0xbef9a3f7, 0xc67178f2
        };

        private final int[] state;
        private final int[] words;

        Sha256() {
            state = new int[8];
            words = new int[BLOCK];
        }

        void hash(byte[] from, int start, int size, byte[] to, int at) {
            digest(from, start, size, to, at);
            digest(to, at, HASH_SIZE, to, at);
        }

        // the answer is written last, so that it may stand where the input stood
        void digest(byte[] from, int start, int size, byte[] to, int at) {
            System.arraycopy(START, 0, state, 0, state.length);
            int lastBlock = (size + LENGTH_BYTES) / BLOCK;
            for (int block = 0; block <= lastBlock; block++) {
                loadWords(from, start, size, block);
                if (block == lastBlock) {
                    words[15] = size * 8;
                }
                extendWords();
                mixWords();
            }
            for (int i = 0; i < HASH_SIZE; i++) {
                to[at + i] = (byte) (state[i / 4] >>> (24 - i % 4 * 8));
            }
        }

        private void loadWords(byte[] from, int start, int size, int block) {
            for (int i = 0; i < BLOCK; i++) {
                int place = block * BLOCK + i;
                int padding = place == size ? 128 : 0;
                int value = place < size ? from[start + place] & 255 : padding;
                // four such shifts leave nothing of the word's old value
                words[i / 4] = words[i / 4] << 8 | value;
            }
        }

        // rotations are written out as shifts here and below to keep the calls shallow
        private void extendWords() {
            for (int i = 16; i < BLOCK; i++) {
                int x = words[i - 15];
                int y = words[i - 2];
                int small0 = (x >>> 7 | x << 25) ^ (x >>> 18 | x << 14) ^ x >>> 3;
                int small1 = (y >>> 17 | y << 15) ^ (y >>> 19 | y << 13) ^ y >>> 10;
                words[i] = words[i - 16] + small0 + words[i - 7] + small1;
            }
        }

        private void mixWords() {
            int a = state[0];
            int b = state[1];
            int c = state[2];
            int d = state[3];
            int e = state[4];
            int f = state[5];
            int g = state[6];
            int h = state[7];
            for (int i = 0; i < BLOCK; i++) {
                int big1 = (e >>> 6 | e << 26) ^ (e >>> 11 | e << 21) ^ (e >>> 25 | e << 7);
                int choice = e & f ^ ~e & g;
                int t1 = h + big1 + choice + ROUND[i] + words[i];
                int big0 = (a >>> 2 | a << 30) ^ (a >>> 13 | a << 19) ^ (a >>> 22 | a << 10);
                int majority = a & b ^ a & c ^ b & c;
                int t2 = big0 + majority;
                h = g;
                g = f;
                f = e;
                e = d + t1;
                d = c;
                c = b;
                b = a;
                a = t1 + t2;
            }
            state[0] += a;
            state[1] += b;
            state[2] += c;
            state[3] += d;
            state[4] += e;
            state[5] += f;
            state[6] += g;
            state[7] += h;
        }
    }

    /** Makes SIGNATURES for the MESSAGE that it keeps. */
    private static final class Signer {
        final byte[] message;
        /** Its first SIGNATURE_SIZE bytes are the SIGNATURE that was made last. */
        final byte[] made;
        final Sha256 hasher;
        private final byte[] text;

        Signer() {
            hasher = new Sha256();
            message = new byte[HASH_SIZE];
            made = new byte[HASH_SIZE];
            text = new byte[KEY_LIMIT + HASH_SIZE];
        }

        // callers have at most KEY_LIMIT bytes: a cut TAPE or an ELEMENT
        void make(byte[] key, int start, int size) {
            System.arraycopy(key, start, text, 0, size);
            System.arraycopy(message, 0, text, size, HASH_SIZE);
            hasher.hash(text, 0, size + HASH_SIZE, made, 0);
        }
    }

    /** The STACK. Its methods that answer a boolean answer false where the document says that it fails. */
    private static final class Elements {
        private static final int MOST = 24;
        private static final int LONGEST = 80;
        private static final int NUMBER_SIZE = 4;

        final byte[] bytes;
        final int[] sizes;
        int count;

        Elements() {
            bytes = new byte[MOST * LONGEST];
            sizes = new int[MOST];
            count = 0;
        }

        int place(int k) {
            return k * LONGEST;
        }

        boolean has(int k) {
            return k >= 0 && k < count;
        }

        boolean push(byte[] from, int start, int size) {
            if (count >= MOST || size > LONGEST) {
                return false;
            }
            System.arraycopy(from, start, bytes, place(count), size);
            sizes[count] = size;
            count++;
            return true;
        }

        boolean pushNumber(int value) {
            if (count >= MOST) {
                return false;
            }
            int start = place(count);
            for (int i = 0; i < NUMBER_SIZE; i++) {
                bytes[start + i] = (byte) (value >>> (24 - i * 8));
            }
            sizes[count] = value == 0 ? 0 : NUMBER_SIZE;
            count++;
            return true;
        }

        boolean pushCopy(int k) {
            return has(k) && push(bytes, place(k), sizes[k]);
        }

        boolean drop(int gone) {
            if (gone > count) {
                return false;
            }
            count -= gone;
            return true;
        }

        boolean replace(int gone, int value) {
            return drop(gone) && pushNumber(value);
        }

        boolean replaceByTruth(int gone, boolean truth) {
            return replace(gone, truth ? 1 : 0);
        }

        boolean swapLast() {
            int lower = count - 2;
            if (!has(lower)) {
                return false;
            }
            int size = sizes[lower];
            sizes[lower] = sizes[lower + 1];
            sizes[lower + 1] = size;
            int start = place(lower);
            for (int i = start; i < start + LONGEST; i++) {
                byte kept = bytes[i];
                bytes[i] = bytes[i + LONGEST];
                bytes[i + LONGEST] = kept;
            }
            return true;
        }

        boolean isTrue(int k) {
            if (!has(k)) {
                return false;
            }
            int start = place(k);
            for (int i = 0; i < sizes[k]; i++) {
                if (bytes[start + i] != 0) {
                    return true;
                }
            }
            return false;
        }

        boolean isNumber(int k) {
            return has(k) && sizes[k] <= NUMBER_SIZE;
        }

        int number(int k) {
            if (!isNumber(k) || sizes[k] == 0) {
                return 0;
            }
            int start = place(k);
            // the first byte brings the sign, so it alone is not masked
            int value = bytes[start];
            for (int i = 1; i < sizes[k]; i++) {
                value = value << 8 | bytes[start + i] & 255;
            }
            return value;
        }

        boolean holds(int k, byte[] other, int start, int size) {
            if (!has(k) || sizes[k] != size) {
                return false;
            }
            int own = place(k);
            for (int i = 0; i < size; i++) {
                if (bytes[own + i] != other[start + i]) {
                    return false;
                }
            }
            return true;
        }
    }

    /**
     * The IFs and UNLESSes that still want their END. Inside one that shuts, what inner ones say
     * makes no difference, so it is enough to know the outermost that shuts.
     */
    private static final class Branches {
        private int open;
        /** The level, counted from 1, of the outermost branch that shuts; 0 if all is done. */
        private int shutAt;

        void clear() {
            open = 0;
            shutAt = 0;
        }

        boolean allEnded() {
            return open == 0;
        }

        boolean isDone() {
            return shutAt == 0;
        }

        void enter(boolean done) {
            open++;
            if (isDone() && !done) {
                shutAt = open;
            }
        }

        boolean turn() {
            if (open == 0) {
                return false;
            }
            if (isDone()) {
                shutAt = open;
            } else if (shutAt == open) {
                shutAt = 0;
            }
            return true;
        }

        boolean leave() {
            if (open == 0) {
                return false;
            }
            if (shutAt == open) {
                shutAt = 0;
            }
            open--;
            return true;
        }
    }

    /** Does what the BYTES of a script say; a method that answers false tells that the script fails. */
    private static final class Runner {
        private static final int LONGEST_PUSH = 75;
        private static final int DUP = 80, DROP = 81, SWAP = 82, OVER = 83, SIZE = 85;
        private static final int EQUAL = 86, VERIFY = 87, NOT = 88, ADD = 89, SUB = 90, LESS = 91, AND = 92;
        private static final int SHA = 93, HASH = 94, SIGNED = 95, AFTER = 96;
        private static final int IF = 97, UNLESS = 98, ELSE = 99, END = 100;
        private static final int ONE = 102, MANY = 103;
        private static final int MOST_KEYS = 8;

        final Elements stack;
        final Signer signer;
        private final Sha256 hasher;
        private final Branches branches;

        Runner() {
            stack = new Elements();
            signer = new Signer();
            hasher = signer.hasher;
            branches = new Branches();
        }

        boolean runScript(Row script, int height) {
            branches.clear();
            boolean fine = true;
            int at = 0;
            while (fine && at < script.size) {
                int code = script.bytes[at] & 255;
                at++;
                if (code <= LONGEST_PUSH) {
                    // bytes that lack fail even where the ELEMENT is passed over
                    fine = code <= script.size - at && (!branches.isDone() || stack.push(script.bytes, at, code));
                    at += code;
                } else if (code >= IF && code <= END) {
                    fine = branch(code);
                } else if (branches.isDone()) {
                    fine = perform(code, height);
                }
            }
            return fine && branches.allEnded();
        }

        private boolean branch(int code) {
            if (code == ELSE) {
                return branches.turn();
            }
            if (code == END) {
                return branches.leave();
            }
            if (!branches.isDone()) {
                branches.enter(false);
                return true;
            }
            branches.enter(stack.isTrue(stack.count - 1) != (code == UNLESS));
            return stack.drop(1);
        }

        private boolean perform(int code, int height) {
            int last = stack.count - 1;
            switch (code) {
                case DUP:
                    return stack.pushCopy(last);
                case DROP:
                    return stack.drop(1);
                case SWAP:
                    return stack.swapLast();
                case OVER:
                    return stack.pushCopy(last - 1);
                case SIZE:
                    return stack.has(last) && stack.pushNumber(stack.sizes[last]);
                case VERIFY:
                    return stack.isTrue(last) && stack.drop(1);
                case NOT:
                    return stack.isNumber(last) && stack.replaceByTruth(1, stack.number(last) == 0);
                case ADD:
                case SUB:
                case LESS:
                    return reckon(code);
                case EQUAL:
                    return equal();
                case AND:
                    return stack.replaceByTruth(2, stack.isTrue(last - 1) && stack.isTrue(last));
                case SHA:
                case HASH:
                    return digestLast(code == HASH);
                case SIGNED:
                    return signed();
                case AFTER:
                    return stack.isNumber(last) && height >= stack.number(last) && stack.drop(1);
                case ONE:
                    return stack.pushNumber(1);
                case MANY:
                    return many();
                default:
                    return false;
            }
        }

        private boolean reckon(int code) {
            int last = stack.count - 1;
            if (!stack.isNumber(last - 1) || !stack.isNumber(last)) {
                return false;
            }
            int a = stack.number(last - 1);
            int b = stack.number(last);
            if (code == LESS) {
                return stack.replaceByTruth(2, a < b);
            }
            return stack.replace(2, code == ADD ? a + b : a - b);
        }

        private boolean equal() {
            int last = stack.count - 1;
            if (!stack.has(last - 1)) {
                return false;
            }
            boolean same = stack.holds(last - 1, stack.bytes, stack.place(last), stack.sizes[last]);
            return stack.replaceByTruth(2, same);
        }

        private boolean digestLast(boolean twice) {
            int last = stack.count - 1;
            if (!stack.has(last)) {
                return false;
            }
            int start = stack.place(last);
            if (twice) {
                hasher.hash(stack.bytes, start, stack.sizes[last], stack.bytes, start);
            } else {
                hasher.digest(stack.bytes, start, stack.sizes[last], stack.bytes, start);
            }
            stack.sizes[last] = HASH_SIZE;
            return true;
        }

        private boolean signed() {
            int key = stack.count - 1;
            if (!stack.has(key - 1)) {
                return false;
            }
            signer.make(stack.bytes, stack.place(key), stack.sizes[key]);
            boolean fits = stack.holds(key - 1, signer.made, 0, SIGNATURE_SIZE);
            return stack.replaceByTruth(2, fits);
        }

        private boolean many() {
            int last = stack.count - 1;
            int keys = stack.number(last);
            if (!stack.isNumber(last) || keys < 0 || keys > MOST_KEYS) {
                return false;
            }
            int firstKey = last - keys;
            int signatures = stack.number(firstKey - 1);
            if (!stack.isNumber(firstKey - 1) || signatures < 0 || signatures > keys) {
                return false;
            }
            int firstSignature = firstKey - 1 - signatures;
            if (firstSignature < 0) {
                return false;
            }
            // to take the earliest KEY that fits leaves the most KEYS to later SIGNATURES
            int met = 0;
            for (int key = firstKey; key < last && met < signatures; key++) {
                signer.make(stack.bytes, stack.place(key), stack.sizes[key]);
                if (stack.holds(firstSignature + met, signer.made, 0, SIGNATURE_SIZE)) {
                    met++;
                }
            }
            return stack.replaceByTruth(stack.count - firstSignature, met == signatures);
        }
    }
}

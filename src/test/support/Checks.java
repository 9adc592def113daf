import java.security.MessageDigest;
import java.security.NoSuchAlgorithmException;
import java.util.Arrays;

/** What the tests share: the BYTES of a script by name, the document's HASH and SIGNATURE, and checks. */
abstract class Checks {
    static final int REFUSED = -1, NONE = -2, FULL = -3;
    static final int MIN = Integer.MIN_VALUE, MAX = Integer.MAX_VALUE;
    static final int DUP = 80, DROP = 81, SWAP = 82, OVER = 83, SIZE = 85, EQUAL = 86, VERIFY = 87,
        NOT = 88, ADD = 89, SUB = 90, LESS = 91, AND = 92, SHA = 93, HASH = 94, SIGNED = 95, AFTER = 96,
        IF = 97, UNLESS = 98, ELSE = 99, END = 100, ONE = 102, MANY = 103;

    private static int wrong = 0;
    private static String about = "";

    /** Names what the checks that follow are about, for what is printed when one does not hold. */
    static void about(String promiseOrSentence) {
        about = promiseOrSentence;
    }

    static void due(String what, long got, long want) {
        if (got != want) {
            tellWrong(what + " answered " + got + ", due is " + want);
        }
    }

    static void due(String what, boolean got, boolean want) {
        due(what, got ? 1 : 0, want ? 1 : 0);
    }

    static void due(String what, String got, String want) {
        if (!got.equals(want)) {
            tellWrong(what + " is " + got + ", due is " + want);
        }
    }

    private static void tellWrong(String what) {
        wrong++;
        System.out.println(about + ": " + what);
    }

    static void finish(String praise) {
        System.out.println(wrong == 0 ? praise : wrong + " answers are not as due");
        if (wrong != 0) {
            System.exit(1);
        }
    }

    // ---- bytes

    static byte[] bytes(int... values) {
        byte[] all = new byte[values.length];
        for (int i = 0; i < values.length; i++) {
            all[i] = (byte) values[i];
        }
        return all;
    }

    static byte[] join(byte[]... parts) {
        int size = 0;
        for (byte[] part : parts) {
            size += part.length;
        }
        byte[] all = new byte[size];
        int at = 0;
        for (byte[] part : parts) {
            System.arraycopy(part, 0, all, at, part.length);
            at += part.length;
        }
        return all;
    }

    static byte[] filled(int size, int value) {
        byte[] all = new byte[size];
        Arrays.fill(all, (byte) value);
        return all;
    }

    /** So many bytes of which no two neighbours are alike. */
    static byte[] rising(int size) {
        byte[] all = new byte[size];
        for (int i = 0; i < size; i++) {
            all[i] = (byte) (i * 7 + 1);
        }
        return all;
    }

    static byte[] push(byte[] element) {
        return join(bytes(element.length), element);
    }

    /** A number as the document writes it. */
    static byte[] number(int n) {
        return n == 0 ? bytes() : bytes(n >>> 24, n >>> 16, n >>> 8, n);
    }

    static byte[][] rows(int count, byte[] element, byte[]... more) {
        byte[][] all = new byte[count + more.length][];
        Arrays.fill(all, element);
        System.arraycopy(more, 0, all, count, more.length);
        return all;
    }

    static byte[] sha256(byte[] input) {
        try {
            return MessageDigest.getInstance("SHA-256").digest(input);
        } catch (NoSuchAlgorithmException e) {
            throw new IllegalStateException(e);
        }
    }

    static byte[] hash(byte[] input) {
        return sha256(sha256(input));
    }

    static byte[] signature(byte[] key, byte[] message) {
        return Arrays.copyOf(hash(join(key, message)), 8);
    }

    /** The SIGNATURE for the MESSAGE that a new object has. */
    static byte[] signature(byte[] key) {
        return signature(key, new byte[32]);
    }

    // ---- objects

    /** Puts at most 400 bytes on an empty TAPE. */
    static void tape(ScriptStack x, byte[] input) {
        byte[] padded = Arrays.copyOf(input, (input.length + 19) / 20 * 20);
        int[] w = new int[padded.length / 4];
        for (int i = 0; i < padded.length; i++) {
            w[i / 4] = w[i / 4] << 8 | padded[i] & 255;
        }
        for (int i = 0; i < w.length; i += 5) {
            x.feed(w[i], w[i + 1], w[i + 2], w[i + 3], w[i + 4]);
        }
        x.end(input.length);
    }

    static void load(ScriptStack x, int which, byte[] script) {
        tape(x, script);
        due("script(" + which + ") of " + script.length, x.script(which), script.length);
    }

    static ScriptStack loaded(byte[] first, byte[] second) {
        ScriptStack x = new ScriptStack();
        load(x, 0, first);
        load(x, 1, second);
        return x;
    }

    static void outHas(String what, ScriptStack x, byte[] want) {
        for (int i = 0; i < want.length; i++) {
            due(what + ": octet(" + i + ")", x.octet(i), want[i] & 255);
        }
        due(what + ": octet(" + want.length + ")", x.octet(want.length), NONE);
    }

    private static boolean holds(ScriptStack x, int k, byte[] want) {
        boolean same = x.element(k, -1) == want.length;
        for (int i = 0; i < want.length; i++) {
            same &= x.element(k, i) == (want[i] & 255);
        }
        return same && x.element(k, want.length) == NONE;
    }

    static boolean truth(byte[] element) {
        boolean truth = false;
        for (byte b : element) {
            truth |= b != 0;
        }
        return truth;
    }

    /** A run of this SCRIPT 1 alone does not fail and leaves these ELEMENTS. */
    static void left(String what, byte[] second, byte[]... elements) {
        left(what, loaded(bytes(), second), elements);
    }

    static void left(String what, ScriptStack x, byte[]... elements) {
        int count = elements.length;
        due(what + ": run", x.run(0), count > 0 && truth(elements[count - 1]));
        due(what + ": depth", x.depth(), count);
        for (int k = 0; k < count; k++) {
            due(what + ": element " + k + " as due", holds(x, k, elements[k]), true);
        }
        due(what + ": no element " + count, x.element(count, -1), NONE);
    }

    /** A run of this SCRIPT 1 alone fails. */
    static void fails(String what, byte[] second) {
        fails(what, loaded(bytes(), second));
    }

    static void fails(String what, ScriptStack x) {
        due(what + ": run", x.run(0), false);
        due(what + ": depth", x.depth(), NONE);
        due(what + ": element(0, -1)", x.element(0, -1), NONE);
        due(what + ": element(0, 0)", x.element(0, 0), NONE);
    }

    /** A run does not fail, whatever it leaves. */
    static void doesNotFail(String what, ScriptStack x) {
        x.run(0);
        due(what + ": nothing fails", x.depth() != NONE, true);
    }

    /** MANY on n KEYS (KEY i is one byte, i + 1) and the SIGNATURES of the KEYS named. */
    static ScriptStack many(int n, int... signers) {
        byte[] first = bytes();
        for (int signer : signers) {
            first = join(first, push(signature(bytes(signer + 1))));
        }
        byte[] second = bytes(1, signers.length);
        for (int key = 0; key < n; key++) {
            second = join(second, bytes(1, key + 1));
        }
        return loaded(first, join(second, bytes(1, n, MANY)));
    }
}

import java.security.MessageDigest;
import java.security.NoSuchAlgorithmException;
import java.util.ArrayList;
import java.util.Arrays;
import java.util.List;
import java.util.Random;

/** Runs of calls from fixed seeds, each answer held against a second, plain writing of the document. */
public final class ReferenceTest {
    private static final int RUNS = 3000;
    private static final int CALLS = 512;

    private static int wrong = 0;
    private static long succeeded = 0;
    private static long unfailed = 0;
    private static final long[] performed = new long[256];

    public static void main(String[] args) {
        for (int seed = 0; seed < RUNS && wrong < 10; seed++) {
            new Caller(seed).go();
        }
        // a test whose scripts all fail early would prove nothing
        if (succeeded < RUNS || unfailed < RUNS) {
            wrong++;
            System.out.println("too few runs come through: " + succeeded + " and " + unfailed);
        }
        for (int code = 80; code <= 103; code++) {
            if (code != 84 && code != 101 && performed[code] < RUNS / 10) {
                wrong++;
                System.out.println("code " + code + " was done only " + performed[code] + " times");
            }
        }
        System.out.println(wrong == 0 ? "all answers are those of the reference" : wrong + " answers are not as due");
        if (wrong != 0) {
            System.exit(1);
        }
    }

    private static byte[] sha256(byte[] input) {
        try {
            return MessageDigest.getInstance("SHA-256").digest(input);
        } catch (NoSuchAlgorithmException e) {
            throw new IllegalStateException(e);
        }
    }

    private static byte[] join(byte[] a, byte[] b) {
        byte[] all = Arrays.copyOf(a, a.length + b.length);
        System.arraycopy(b, 0, all, a.length, b.length);
        return all;
    }

    /** Thrown where the document says that a script fails. */
    private static final class Failure extends RuntimeException {
        private static final long serialVersionUID = 1;

        Failure() {
            super(null, null, false, false);
        }
    }

    private static final class Model {
        byte[] tape = {};
        byte[] out = {};
        byte[][] scripts = {{}, {}};
        byte[] message = new byte[32];
        /** What the latest run has left; null if it failed or there was none. */
        List<byte[]> left = null;

        int add(byte[] more) {
            if (tape.length + more.length > 400) {
                return -3;
            }
            tape = join(tape, more);
            return tape.length;
        }

        int feed(int... words) {
            byte[] fed = new byte[20];
            for (int i = 0; i < 20; i++) {
                fed[i] = (byte) (words[i / 4] >> 8 * (3 - i % 4));
            }
            return add(fed);
        }

        int end(int n) {
            if (n < 0 || n > tape.length) {
                return -1;
            }
            tape = Arrays.copyOf(tape, n);
            return n;
        }

        int script(int which) {
            if (which != 0 && which != 1 || tape.length > 80) {
                return -1;
            }
            scripts[which] = tape;
            tape = new byte[0];
            return scripts[which].length;
        }

        int message() {
            int had = tape.length;
            message = sha256(sha256(tape));
            tape = new byte[0];
            return had;
        }

        int sha() {
            out = sha256(tape);
            tape = new byte[0];
            return 32;
        }

        byte[] signature(byte[] key) {
            return Arrays.copyOf(sha256(sha256(join(key, message))), 8);
        }

        int sign() {
            if (tape.length > 80) {
                return -1;
            }
            out = signature(tape);
            tape = new byte[0];
            return 8;
        }

        int back() {
            return add(join(new byte[] {(byte) out.length}, out));
        }

        int octet(int i) {
            return i >= 0 && i < out.length ? Byte.toUnsignedInt(out[i]) : -2;
        }

        int depth() {
            return left == null ? -2 : left.size();
        }

        int element(int k, int i) {
            if (left == null || k < 0 || k >= left.size()) {
                return -2;
            }
            byte[] e = left.get(k);
            if (i == -1) {
                return e.length;
            }
            return i >= 0 && i < e.length ? Byte.toUnsignedInt(e[i]) : -2;
        }

        boolean run(int height) {
            List<byte[]> stack = new ArrayList<>();
            left = null;
            try {
                perform(scripts[0], stack, height);
                perform(scripts[1], stack, height);
            } catch (Failure f) {
                return false;
            }
            left = stack;
            unfailed++;
            boolean success = !stack.isEmpty() && truth(stack.get(stack.size() - 1));
            succeeded += success ? 1 : 0;
            return success;
        }

        private void perform(byte[] script, List<byte[]> stack, int height) {
            List<Boolean> said = new ArrayList<>();
            for (int at = 0; at < script.length; at++) {
                int code = Byte.toUnsignedInt(script[at]);
                boolean done = !said.contains(false);
                if (code <= 75) {
                    fail(at + 1 + code > script.length);
                    if (done) {
                        put(stack, Arrays.copyOfRange(script, at + 1, at + 1 + code));
                    }
                    at += code;
                } else if (code == 97 || code == 98) {
                    said.add(done ? truth(take(stack)) == (code == 97) : true);
                } else if (code == 99) {
                    fail(said.isEmpty());
                    said.set(said.size() - 1, !said.get(said.size() - 1));
                } else if (code == 100) {
                    fail(said.isEmpty());
                    said.remove(said.size() - 1);
                } else if (done) {
                    step(code, stack, height);
                }
                if (done) {
                    performed[code]++;
                }
            }
            fail(!said.isEmpty());
        }

        private void step(int code, List<byte[]> s, int height) {
            byte[] a;
            byte[] b;
            int n;
            switch (code) {
                case 80 -> { a = take(s); put(s, a); put(s, a); }
                case 81 -> take(s);
                case 82 -> { b = take(s); a = take(s); put(s, b); put(s, a); }
                case 83 -> { b = take(s); a = take(s); put(s, a); put(s, b); put(s, a); }
                case 85 -> { a = take(s); put(s, a); put(s, written(a.length)); }
                case 86 -> put(s, written(Arrays.equals(take(s), take(s)) ? 1 : 0));
                case 87 -> fail(!truth(take(s)));
                case 88 -> put(s, written(value(take(s)) == 0 ? 1 : 0));
                case 89 -> put(s, written(value(take(s)) + value(take(s))));
                case 90 -> { n = value(take(s)); put(s, written(value(take(s)) - n)); }
                case 91 -> { n = value(take(s)); put(s, written(value(take(s)) < n ? 1 : 0)); }
                case 92 -> put(s, written(truth(take(s)) & truth(take(s)) ? 1 : 0));
                case 93 -> put(s, sha256(take(s)));
                case 94 -> put(s, sha256(sha256(take(s))));
                case 95 -> { b = take(s); a = take(s); put(s, written(Arrays.equals(a, signature(b)) ? 1 : 0)); }
                case 96 -> fail(height < value(take(s)));
                case 102 -> put(s, written(1));
                case 103 -> many(s);
                default -> fail(true);
            }
        }

        private void many(List<byte[]> s) {
            int n = value(take(s));
            fail(n < 0 || n > 8);
            List<byte[]> keys = new ArrayList<>();
            for (int i = 0; i < n; i++) {
                keys.add(0, take(s));
            }
            int m = value(take(s));
            fail(m < 0 || m > n);
            List<byte[]> signatures = new ArrayList<>();
            for (int i = 0; i < m; i++) {
                signatures.add(0, take(s));
            }
            put(s, written(canMatch(signatures, 0, keys, 0) ? 1 : 0));
        }

        // every way to choose KEYS is tried
        private boolean canMatch(List<byte[]> signatures, int i, List<byte[]> keys, int from) {
            if (i == signatures.size()) {
                return true;
            }
            for (int k = from; k < keys.size(); k++) {
                if (Arrays.equals(signatures.get(i), signature(keys.get(k))) && canMatch(signatures, i + 1, keys, k + 1)) {
                    return true;
                }
            }
            return false;
        }

        private static void fail(boolean when) {
            if (when) {
                throw new Failure();
            }
        }

        private static byte[] take(List<byte[]> stack) {
            fail(stack.isEmpty());
            return stack.remove(stack.size() - 1);
        }

        private static void put(List<byte[]> stack, byte[] element) {
            fail(stack.size() == 24);
            stack.add(element);
        }

        private static boolean truth(byte[] element) {
            for (byte b : element) {
                if (b != 0) {
                    return true;
                }
            }
            return false;
        }

        private static int value(byte[] element) {
            fail(element.length > 4);
            return element.length == 0 ? 0 : new java.math.BigInteger(element).intValue();
        }

        private static byte[] written(int n) {
            return n == 0 ? new byte[0] : java.nio.ByteBuffer.allocate(4).putInt(n).array();
        }
    }

    /** Makes the calls of one run, on the program and on the model. */
    private static final class Caller {
        private final int seed;
        private final Random random;
        private final Model model = new Model();
        private final ScriptStack program = new ScriptStack();
        private int calls = 0;

        Caller(int seed) {
            this.seed = seed;
            random = new Random(seed);
        }

        void go() {
            while (calls < CALLS - 80) {
                switch (random.nextInt(8)) {
                    case 0 -> odd();
                    case 1 -> newMessage();
                    case 2 -> { load(0, random.nextInt(200)); check("sha", program.sha(), model.sha()); look(); }
                    case 3 -> { signAndBack(); }
                    default -> spend();
                }
            }
        }

        private void check(String call, int got, int want) {
            calls++;
            if (got != want) {
                wrong++;
                System.out.println("seed " + seed + ", call " + calls + ": " + call + " answered " + got + ", due is " + want);
            }
        }

        private void put(byte[] input) {
            check("end(0)", program.end(0), model.end(0));
            byte[] padded = Arrays.copyOf(input, (input.length + 19) / 20 * 20);
            java.nio.IntBuffer w = java.nio.ByteBuffer.wrap(padded).asIntBuffer();
            while (w.hasRemaining()) {
                feed(w.get(), w.get(), w.get(), w.get(), w.get());
            }
            check("end", program.end(input.length), model.end(input.length));
        }

        private void feed(int a, int b, int c, int d, int e) {
            check("feed", program.feed(a, b, c, d, e), model.feed(a, b, c, d, e));
        }

        private void load(int least, int more) {
            byte[] input = new byte[least + more];
            random.nextBytes(input);
            put(input);
        }

        private void newMessage() {
            load(0, random.nextInt(130));
            check("message", program.message(), model.message());
        }

        private void look() {
            int i = random.nextInt(36) - 2;
            check("octet(" + i + ")", program.octet(i), model.octet(i));
        }

        private void signAndBack() {
            load(0, random.nextInt(83));
            check("sign", program.sign(), model.sign());
            look();
            for (int i = random.nextInt(14); i > 0; i--) {
                check("back", program.back(), model.back());
            }
        }

        private void odd() {
            int n = random.nextInt(460) - 30;
            check("end(" + n + ")", program.end(n), model.end(n));
            int which = random.nextInt(5) - 1;
            check("script(" + which + ")", program.script(which), model.script(which));
            for (int i = random.nextInt(24); i > 0; i--) {
                feed(random.nextInt(), random.nextInt(), random.nextInt(), random.nextInt(), random.nextInt());
            }
            check("back", program.back(), model.back());
        }

        private void spend() {
            for (int which = 0; which < 2; which++) {
                put(randomScript());
                check("script(" + which + ")", program.script(which), model.script(which));
            }
            int height = random.nextInt(6) - 2;
            check("run(" + height + ")", program.run(height) ? 1 : 0, model.run(height) ? 1 : 0);
            check("depth", program.depth(), model.depth());
            for (int k = -1; k <= Math.min(3, model.depth()); k++) {
                int i = random.nextInt(6) - 2;
                check("element(" + k + ", -1)", program.element(k, -1), model.element(k, -1));
                check("element(" + k + ", " + i + ")", program.element(k, i), model.element(k, i));
            }
            int last = model.depth() - 1;
            for (int i = 0; i < 4; i++) {
                check("element(" + last + ", " + i + ")", program.element(last, i), model.element(last, i));
            }
        }

        private byte[] randomScript() {
            byte[] script = {};
            int parts = random.nextInt(10);
            for (int i = 0; i < parts; i++) {
                byte[] longer = join(script, part(0));
                if (longer.length <= 80) {
                    script = longer;
                }
            }
            return script;
        }

        // KEYS are few, so that SIGNATURES meet them often
        private byte[] key() {
            return new byte[] {(byte) random.nextInt(3)};
        }

        private byte[] pushed(byte[] element) {
            return join(new byte[] {(byte) element.length}, element);
        }

        private byte[] part(int level) {
            switch (random.nextInt(9)) {
                case 0:
                    return new byte[] {(byte) (random.nextInt(40) == 0 ? random.nextInt(256) : 80 + random.nextInt(24))};
                case 1:
                    return join(smallNumber(), new byte[] {(byte) (80 + random.nextInt(17))});
                case 2:
                    return join(join(smallNumber(), smallNumber()), new byte[] {(byte) (80 + random.nextInt(17))});
                case 3:
                    return join(join(pushed(signature()), pushed(key())), new byte[] {95});
                case 4:
                    return manyPart();
                case 5:
                case 6:
                    return level > 3 ? smallNumber() : branchPart(level);
                default:
                    return smallNumber();
            }
        }

        private byte[] signature() {
            byte[] made = model.signature(key());
            return random.nextInt(12) == 0 ? Arrays.copyOf(made, 7 + random.nextInt(3)) : made;
        }

        private byte[] smallNumber() {
            byte[] element = new byte[random.nextInt(12) == 0 ? random.nextInt(7) : random.nextInt(3)];
            for (int i = 0; i < element.length; i++) {
                element[i] = (byte) (random.nextInt(4) == 0 ? random.nextInt() : random.nextInt(4) - 1);
            }
            return pushed(element);
        }

        private byte[] manyPart() {
            int n = random.nextInt(5);
            int m = Math.min(3, random.nextInt(n + 1));
            byte[] all = {};
            for (int i = 0; i < m; i++) {
                all = join(all, pushed(signature()));
            }
            all = join(all, new byte[] {1, (byte) (random.nextInt(15) == 0 ? random.nextInt(12) - 1 : m)});
            for (int i = 0; i < n; i++) {
                all = join(all, pushed(key()));
            }
            return join(all, new byte[] {1, (byte) (random.nextInt(15) == 0 ? random.nextInt(12) - 1 : n), 103});
        }

        private byte[] branchPart(int level) {
            byte[] all = join(smallNumber(), new byte[] {(byte) (97 + random.nextInt(2))});
            for (int i = random.nextInt(4); i > 0; i--) {
                all = join(all, random.nextInt(2) == 0 ? new byte[] {99} : part(level + 1));
            }
            return random.nextInt(15) == 0 ? all : join(all, new byte[] {100});
        }
    }
}

import java.util.Arrays;

/** For each promise of the document: ordinary inputs, the edges that it names, and wrong inputs. */
public final class PromiseTest extends Checks {
    public static void main(String[] args) {
        newObject();
        feed();
        end();
        script();
        message();
        runAndItsEnds();
        runPushes();
        runStackCodes();
        runNumbers();
        runTruths();
        runHashes();
        runSigned();
        runMany();
        runAfter();
        runBranches();
        runOtherCodes();
        depth();
        element();
        sha();
        sign();
        back();
        octet();
        finish("all promises hold");
    }

    private static void reckons(String what, int code, byte[] a, byte[] b, int want) {
        left(what, join(push(a), push(b), bytes(code)), number(want));
    }

    private static void newObject() {
        about("promise 1");
        ScriptStack x = new ScriptStack();
        due("end(1)", x.end(1), REFUSED);
        due("end(0)", x.end(0), 0);
        due("octet(0)", x.octet(0), NONE);
        due("depth()", x.depth(), NONE);
        due("element(0, -1)", x.element(0, -1), NONE);
        due("run(0)", x.run(0), false);
        due("depth()", x.depth(), 0);
        due("back()", x.back(), 1);
        ScriptStack other = new ScriptStack();
        due("another object's end(1)", other.end(1), REFUSED);
    }

    private static void feed() {
        about("promise 2");
        ScriptStack x = new ScriptStack();
        due("feed", x.feed(0x01020304, 0x05060708, 0x090a0b0c, 0x0d0e0f10, 0xfffefdfc), 20);
        x.sha();
        byte[] fed = bytes(1, 2, 3, 4, 5, 6, 7, 8, 9, 10, 11, 12, 13, 14, 15, 16, 255, 254, 253, 252);
        byte[] want = sha256(fed);
        for (int i = 0; i < 32; i++) {
            due("octet(" + i + ") of what was fed", x.octet(i), want[i] & 255);
        }
        for (int i = 1; i <= 20; i++) {
            due("feed " + i, x.feed(i, i, i, i, i), 20 * i);
        }
        due("feed 21", x.feed(1, 1, 1, 1, 1), FULL);
        due("end(400) after FULL", x.end(400), 400);
        due("end(381)", x.end(381), 381);
        due("feed on 381", x.feed(1, 1, 1, 1, 1), FULL);
        due("end(380)", x.end(380), 380);
        due("feed on 380", x.feed(1, 1, 1, 1, 1), 400);
    }

    private static void end() {
        about("promise 3");
        ScriptStack x = new ScriptStack();
        x.feed(0x61626364, 0, 0, 0, 0);
        due("end(21)", x.end(21), REFUSED);
        due("end(-1)", x.end(-1), REFUSED);
        due("end(MIN)", x.end(Integer.MIN_VALUE), REFUSED);
        due("end(MAX)", x.end(Integer.MAX_VALUE), REFUSED);
        due("end(20)", x.end(20), 20);
        due("end(3)", x.end(3), 3);
        due("end(4)", x.end(4), REFUSED);
        x.sha();
        due("the first bytes stay", x.octet(0), 0xba);
        due("end(0)", x.end(0), 0);
    }

    private static void script() {
        about("promise 4");
        ScriptStack x = new ScriptStack();
        tape(x, filled(80, ONE));
        due("script(2)", x.script(2), REFUSED);
        due("script(-1)", x.script(-1), REFUSED);
        due("the tape stays", x.end(80), 80);
        due("script(0) of 80", x.script(0), 80);
        due("the tape is empty", x.end(1), REFUSED);
        tape(x, filled(81, ONE));
        due("script(1) of 81", x.script(1), REFUSED);
        due("the tape stays", x.end(81), 81);
        x.end(2);
        due("script(0) of 2", x.script(0), 2);
        due("script(1) of 0", x.script(1), 0);
        due("run", x.run(0), true);
        due("nothing of the older script is left", x.depth(), 2);
        tape(x, bytes(ADD));
        due("script(1)", x.script(1), 1);
        due("depth stays until the next run", x.depth(), 2);
        left("script 0, then script 1", x, number(2));
        fails("script 1 is not first", loaded(bytes(ADD), bytes(ONE, ONE)));
    }

    private static void message() {
        about("promise 5");
        ScriptStack x = new ScriptStack();
        byte[] key = bytes(1, 2, 3);
        for (int size : new int[] {0, 1, 55, 56, 63, 64, 65, 119, 120, 380}) {
            byte[] text = filled(size, size + 7);
            tape(x, text);
            due("message() of " + size, x.message(), size);
            due("the tape is empty", x.end(1), REFUSED);
            tape(x, key);
            x.sign();
            outHas("for " + size, x, signature(key, hash(text)));
        }
    }

    private static void runAndItsEnds() {
        about("promise 6");
        due("no element", loaded(bytes(), bytes()).run(0), false);
        due("an empty one", loaded(bytes(), bytes(0)).run(0), false);
        due("zeros alone", loaded(bytes(), bytes(3, 0, 0, 0)).run(0), false);
        due("what stood behind it before", loaded(bytes(2, 0, 7, DROP), bytes(1, 0)).run(0), false);
        due("a last byte", loaded(bytes(), bytes(3, 0, 0, 1)).run(0), true);
        due("a high bit alone", loaded(bytes(), bytes(3, 0, 128, 0)).run(0), true);
        due("the last one counts", loaded(bytes(), bytes(ONE, 0)).run(0), false);
        due("script 0 alone", loaded(bytes(ONE), bytes()).run(0), true);
        ScriptStack x = loaded(bytes(ONE), bytes(ONE));
        x.run(0);
        due("a second run", x.run(0), true);
        due("begins with no element", x.depth(), 2);
    }

    private static void runPushes() {
        about("promise 6");
        left("0", bytes(0), bytes());
        left("2", bytes(2, 9, 255), bytes(9, 255));
        left("75", push(filled(75, 200)), filled(75, 200));
        left("codes as data", bytes(3, 101, 97, 200), bytes(101, 97, 200));
        fails("75 with 74", join(bytes(75), filled(74, 1)));
        fails("1 with none", bytes(1));
        fails("bytes of script 1 do not count for script 0", loaded(bytes(ONE, 1), bytes(1, 1)));
        left("24 pushes", filled(24, 0), rows(24, bytes()));
        fails("25 pushes", filled(25, 0));
        fails("25 ones", filled(25, ONE));
    }

    private static void runStackCodes() {
        about("promise 6");
        left("DUP", bytes(2, 7, 8, DUP), bytes(7, 8), bytes(7, 8));
        fails("DUP of none", bytes(DUP));
        fails("DUP on 24", join(filled(24, ONE), bytes(DUP)));
        left("DROP", bytes(1, 7, 1, 8, DROP), bytes(7));
        fails("DROP of none", bytes(DROP));
        left("SWAP", bytes(1, 5, 3, 7, 8, 9, 1, 6, SWAP), bytes(5), bytes(6), bytes(7, 8, 9));
        left("SWAP of 75 and 2", join(push(filled(75, 3)), bytes(0, SWAP)), bytes(), filled(75, 3));
        fails("SWAP of one", bytes(ONE, SWAP));
        left("SWAP on 24", join(filled(23, 0), bytes(ONE, SWAP, DROP, VERIFY, ONE)), rows(22, bytes(), number(1)));
        left("OVER", bytes(2, 7, 8, 1, 9, OVER), bytes(7, 8), bytes(9), bytes(7, 8));
        fails("OVER of one", bytes(ONE, OVER));
        fails("OVER on 24", join(filled(24, ONE), bytes(OVER)));
        left("SIZE", bytes(3, 0, 0, 0, SIZE), bytes(0, 0, 0), number(3));
        left("SIZE of 0", bytes(0, SIZE), bytes(), bytes());
        left("SIZE of 75", join(push(filled(75, 1)), bytes(SIZE)), filled(75, 1), number(75));
        fails("SIZE of none", bytes(SIZE));
        fails("SIZE on 24", join(filled(24, ONE), bytes(SIZE)));
    }

    private static void runNumbers() {
        about("promise 6");
        left("ONE", bytes(ONE), bytes(0, 0, 0, 1));
        reckons("3 + 4", ADD, bytes(3), bytes(4), 7);
        reckons("-1 + 1", ADD, bytes(255), bytes(1), 0);
        reckons("255 + 1", ADD, bytes(0, 255), bytes(1), 256);
        reckons("nothing is 0", ADD, bytes(), bytes(), 0);
        reckons("two bytes with a sign", ADD, bytes(255, 254), bytes(), -2);
        reckons("three bytes with a sign", ADD, bytes(128, 0, 1), bytes(), 0xff800001);
        reckons("four bytes", ADD, bytes(18, 52, 86, 120), bytes(0, 0), 0x12345678);
        reckons("ADD wraps", ADD, bytes(127, 255, 255, 255), bytes(1), Integer.MIN_VALUE);
        reckons("3 - 4", SUB, bytes(3), bytes(4), -1);
        reckons("4 - 3", SUB, bytes(4), bytes(3), 1);
        reckons("SUB wraps", SUB, bytes(128, 0, 0, 0), bytes(1), Integer.MAX_VALUE);
        reckons("3 < 4", LESS, bytes(3), bytes(4), 1);
        reckons("4 < 3", LESS, bytes(4), bytes(3), 0);
        reckons("3 < 3", LESS, bytes(3), bytes(0, 3), 0);
        reckons("-1 < 0", LESS, bytes(255), bytes(), 1);
        reckons("MIN < MAX", LESS, bytes(128, 0, 0, 0), bytes(127, 255, 255, 255), 1);
        left("NOT 0", bytes(0, NOT), number(1));
        left("NOT of zeros", bytes(4, 0, 0, 0, 0, NOT), number(1));
        left("NOT 1", bytes(ONE, NOT), number(0));
        left("NOT -1", bytes(1, 255, NOT), number(0));
        left("NOT 256", bytes(2, 1, 0, NOT), number(0));
        fails("NOT of none", bytes(NOT));
        fails("NOT of 5 bytes", bytes(5, 0, 0, 0, 0, 0, NOT));
        for (int code : new int[] {ADD, SUB, LESS}) {
            fails(code + " of none", bytes(code));
            fails(code + " of one", bytes(ONE, code));
            fails(code + " of 5 bytes last", bytes(ONE, 5, 0, 0, 0, 0, 1, code));
            fails(code + " of 5 bytes first", bytes(5, 0, 0, 0, 0, 1, ONE, code));
            left(code + " leaves what is below", bytes(1, 9, 0, 0, code), bytes(9), bytes());
        }
    }

    private static void runTruths() {
        about("promise 6");
        left("EQUAL", bytes(2, 1, 2, 2, 1, 2, EQUAL), number(1));
        left("EQUAL of other bytes", bytes(2, 1, 2, 2, 1, 3, EQUAL), number(0));
        left("EQUAL of other sizes", bytes(1, 1, 2, 1, 0, EQUAL), number(0));
        left("EQUAL of other sizes, longer first", bytes(2, 1, 0, 1, 1, EQUAL), number(0));
        left("EQUAL tells bytes, not numbers", bytes(1, 1, ONE, EQUAL), number(0));
        left("EQUAL of empty ones", bytes(0, 0, EQUAL), number(1));
        fails("EQUAL of one", bytes(ONE, EQUAL));
        left("VERIFY", bytes(1, 7, 5, 0, 0, 0, 0, 1, VERIFY), bytes(7));
        fails("VERIFY of an empty one", bytes(ONE, 0, VERIFY));
        fails("VERIFY of zeros", bytes(ONE, 2, 0, 0, VERIFY));
        fails("VERIFY of none", bytes(VERIFY, ONE));
        left("AND", bytes(6, 0, 0, 0, 0, 0, 1, 1, 128, AND), number(1));
        left("AND of true, false", bytes(ONE, 2, 0, 0, AND), number(0));
        left("AND of false, true", bytes(0, ONE, AND), number(0));
        left("AND of bits that do not meet", bytes(1, 1, 1, 2, AND), number(1));
        left("AND of false, false", bytes(0, 0, AND), number(0));
        fails("AND of one", bytes(ONE, AND));
        fails("AND of none", bytes(AND));
    }

    private static void runHashes() {
        about("promise 6");
        for (int size : new int[] {0, 1, 3, 54, 55, 56, 63, 64, 75}) {
            byte[] text = filled(size, 250 - size);
            left("SHA of " + size, join(bytes(1, 9), push(text), bytes(SHA)), bytes(9), sha256(text));
            left("HASH of " + size, join(bytes(1, 9), push(text), bytes(HASH)), bytes(9), hash(text));
        }
        fails("SHA of none", bytes(SHA));
        fails("HASH of none", bytes(HASH));
        left("SHA on 24", join(filled(24, 0), bytes(SHA)), rows(23, bytes(), sha256(bytes())));
    }

    private static void runSigned() {
        about("promise 6");
        byte[] zeros = new byte[32];
        byte[] key = bytes(7, 7, 9);
        byte[] good = signature(key, zeros);
        byte[] code = join(push(key), bytes(SIGNED));
        left("SIGNED", loaded(push(good), code), number(1));
        for (int i = 0; i < 8; i++) {
            byte[] bad = good.clone();
            bad[i] ^= 1;
            left("SIGNED with byte " + i + " changed", loaded(push(bad), code), number(0));
        }
        left("7 bytes", loaded(push(Arrays.copyOf(good, 7)), code), number(0));
        byte[] long9 = Arrays.copyOf(hash(join(key, zeros)), 9);
        left("9 bytes", loaded(push(long9), code), number(0));
        left("an empty signature", loaded(bytes(0), code), number(0));
        left("KEY first", loaded(push(key), join(push(good), bytes(SIGNED))), number(0));
        left("an empty KEY", loaded(push(signature(bytes(), zeros)), bytes(0, SIGNED)), number(1));
        byte[] longKey = filled(75, 77);
        left("a KEY of 75", loaded(push(signature(longKey, zeros)), join(push(longKey), bytes(SIGNED))), number(1));
        left("what is below stays", loaded(join(bytes(1, 9), push(good)), code), bytes(9), number(1));
        fails("SIGNED of one", bytes(ONE, SIGNED));
        fails("SIGNED of none", bytes(SIGNED));

        ScriptStack x = loaded(push(signature(key, hash(bytes(1, 2)))), code);
        left("before the message", x, number(0));
        tape(x, bytes(1, 2));
        x.message();
        left("for a message", x, number(1));
    }

    private static void runMany() {
        about("promise 6");
        left("0 of 0", many(0), number(1));
        left("0 of 0, empty numbers", bytes(0, 0, MANY), number(1));
        left("0 of 3", many(3), number(1));
        left("1 of 1", many(1, 0), number(1));
        left("2 of 3, first two", many(3, 0, 1), number(1));
        left("2 of 3, last two", many(3, 1, 2), number(1));
        left("2 of 3, outer two", many(3, 0, 2), number(1));
        left("2 of 3, wrong order", many(3, 2, 0), number(0));
        left("2 of 3, the same twice", many(3, 1, 1), number(0));
        left("2 of 3, a stranger", many(3, 0, 5), number(0));
        left("2 of 3, a stranger first", many(3, 5, 0), number(0));
        left("3 of 3", many(3, 0, 1, 2), number(1));
        left("8 of 8", many(8, 0, 1, 2, 3, 4, 5, 6, 7), number(1));
        left("1 of 8, the last", many(8, 7), number(1));
        fails("n is 9", many(9, 0));
        fails("m above n", many(1, 0, 1));
        fails("m above n, which is 0", many(0, 0));
        left("what is below stays", bytes(1, 9, 0, 0, MANY), bytes(9), number(1));

        byte[] key = bytes(4);
        byte[] twice = push(signature(key));
        left("a KEY that stands twice", loaded(join(twice, twice), bytes(1, 2, 1, 4, 1, 4, 1, 2, MANY)), number(1));
        left("a signature of 9 bytes",
            loaded(push(Arrays.copyOf(hash(join(key, new byte[32])), 9)), bytes(1, 1, 1, 4, 1, 1, MANY)), number(0));

        left("n is no KEY", loaded(push(signature(bytes(1))), bytes(1, 1, 1, 4, 1, 1, MANY)), number(0));
        fails("no n", bytes(MANY));
        fails("n alone", bytes(0, MANY));
        fails("n is -1", bytes(0, 0, 1, 255, MANY));
        fails("n of 5 bytes", bytes(0, 5, 0, 0, 0, 0, 0, MANY));
        fails("n is 2^24", bytes(0, 4, 1, 0, 0, 0, MANY));
        fails("n is MIN", bytes(0, 4, 128, 0, 0, 0, MANY));
        fails("m is -1", bytes(0, 1, 255, 0, MANY));
        fails("m is MIN", bytes(4, 128, 0, 0, 0, 0, MANY));
        fails("m of 5 bytes", bytes(5, 0, 0, 0, 0, 0, 0, MANY));
        fails("a KEY lacks, and m", bytes(1, 7, 1, 2, MANY));
        fails("m lacks", bytes(1, 7, 1, 1, MANY));
        fails("a SIGNATURE lacks", bytes(1, 1, 1, 7, 1, 1, MANY));
        left("on 24", join(filled(22, 0), bytes(0, 0, MANY)), rows(22, bytes(), number(1)));
    }

    private static void runAfter() {
        about("promise 6");
        ScriptStack x = loaded(bytes(ONE), bytes(1, 9, AFTER));
        due("run(8)", x.run(8), false);
        due("depth()", x.depth(), NONE);
        due("run(9)", x.run(9), true);
        due("depth()", x.depth(), 1);
        due("run(10)", x.run(10), true);
        due("run(-10)", x.run(-10), false);
        due("run(MIN)", x.run(Integer.MIN_VALUE), false);
        due("run(MAX)", x.run(Integer.MAX_VALUE), true);
        ScriptStack below = loaded(bytes(ONE), bytes(1, 255, AFTER));
        due("-1 AFTER -1", below.run(-1), true);
        due("-2 AFTER -1", below.run(-2), false);
        ScriptStack both = loaded(bytes(1, 9, AFTER), bytes(ONE));
        due("AFTER in script 0, 8", both.run(8), false);
        due("AFTER in script 0, 9", both.run(9), true);
        fails("AFTER of none", bytes(AFTER, ONE));
        fails("AFTER of 5 bytes", bytes(ONE, 5, 0, 0, 0, 0, 0, AFTER));
    }

    private static void runBranches() {
        about("promise 6");
        byte[] a = bytes(5);
        byte[] b = bytes(6);
        left("IF true", bytes(ONE, IF, 1, 5, ELSE, 1, 6, END), a);
        left("IF false", bytes(0, IF, 1, 5, ELSE, 1, 6, END), b);
        left("UNLESS true", bytes(ONE, UNLESS, 1, 5, ELSE, 1, 6, END), b);
        left("UNLESS false", bytes(2, 0, 0, UNLESS, 1, 5, ELSE, 1, 6, END), a);
        left("IF of a long element", bytes(6, 0, 0, 0, 0, 0, 1, IF, 1, 5, END), a);
        left("no ELSE", bytes(1, 9, 0, IF, 1, 5, END), bytes(9));
        left("ELSE each time", bytes(ONE, IF, 1, 1, ELSE, 1, 2, ELSE, 1, 3, ELSE, 1, 4, END), bytes(1), bytes(3));
        left("ELSE each time, not", bytes(0, IF, 1, 1, ELSE, 1, 2, ELSE, 1, 3, ELSE, 1, 4, END), bytes(2), bytes(4));
        left("inner, done", bytes(ONE, ONE, IF, IF, 1, 5, ELSE, 1, 6, END, 1, 7, END), a, bytes(7));
        left("inner, not done", bytes(0, ONE, IF, IF, 1, 5, ELSE, 1, 6, END, 1, 7, END), b, bytes(7));
        left("inner passed over takes none", bytes(1, 9, 0, IF, IF, 1, 5, ELSE, 1, 6, END, UNLESS, END, END), bytes(9));
        left("inner ELSE passed over", bytes(0, IF, ONE, IF, ELSE, 1, 5, ELSE, END, ELSE, 1, 6, END), b);
        left("inner shuts, outer goes on", bytes(ONE, IF, 0, IF, 1, 5, END, 1, 6, END, 1, 7), b, bytes(7));
        left("passed over codes", bytes(0, IF, 101, 84, 76, 79, 104, 255, DUP, DROP, ADD, MANY, AFTER, END, ONE), number(1));
        left("passed over elements", bytes(0, IF, 2, END, ELSE, END, ONE), number(1));
        fails("passed over element that lacks bytes", bytes(ONE, 0, IF, 3, END, END));
        fails("IF of none", bytes(IF, END, ONE));
        fails("UNLESS of none", bytes(UNLESS, END, ONE));
        fails("ELSE alone", bytes(ONE, ELSE));
        fails("END alone", bytes(ONE, END));
        fails("END twice", bytes(ONE, ONE, IF, END, END));
        fails("ELSE behind END", bytes(ONE, ONE, IF, END, ELSE));
        fails("END lacks", bytes(ONE, ONE, IF));
        fails("END lacks, not done", bytes(ONE, 0, IF));
        fails("END of the outer lacks", bytes(ONE, ONE, ONE, IF, IF, END));
        fails("END of an inner passed over lacks", bytes(ONE, 0, IF, IF, END));
        fails("END in the other script", loaded(bytes(ONE, ONE, IF), bytes(END)));
        fails("END lacks in script 0", loaded(bytes(ONE, ONE, IF), bytes(ONE)));
        fails("ELSE in the other script", loaded(bytes(ONE, 0, IF), bytes(ELSE, END)));
        left("an IF in each", loaded(bytes(ONE, IF, 1, 5, END), bytes(0, IF, END)), a);
        left("39 deep", loaded(join(bytes(0), filled(39, IF), filled(39, END), bytes(ONE)), bytes()), number(1));
        fails("79 open", join(bytes(0), filled(79, IF)));
        ScriptStack x = loaded(bytes(), bytes(0, IF));
        x.run(0);
        tape(x, bytes(1, 5));
        x.script(1);
        left("a run after one that was left open", x, a);
        left("a full stack, passed over", join(filled(24, 0), bytes(IF, 0, 0, 0, ONE, END, ONE)), rows(23, bytes(), number(1)));
    }

    private static void runOtherCodes() {
        about("promise 6");
        for (int code = 76; code < 256; code++) {
            if (code < DUP || code == 84 || code == 101 || code > MANY) {
                fails("code " + code, bytes(ONE, ONE, ONE, code));
            }
        }
        fails("a failure in script 0", loaded(bytes(ONE, 101), bytes(ONE)));
        fails("a failure behind an answer", bytes(ONE, 101));
    }

    private static void depth() {
        about("promise 7");
        ScriptStack x = new ScriptStack();
        due("before the first run", x.depth(), NONE);
        x.run(0);
        due("no elements", x.depth(), 0);
        tape(x, bytes(ONE, ONE, 0));
        x.script(0);
        x.run(0);
        due("three, the last one false", x.depth(), 3);
        tape(x, bytes(101));
        x.script(1);
        x.run(0);
        due("after a failure", x.depth(), NONE);
        x.script(1);
        due("a new script changes nothing", x.depth(), NONE);
        x.run(0);
        due("after a run that does not fail", x.depth(), 3);
    }

    private static void element() {
        about("promise 8");
        ScriptStack x = new ScriptStack();
        due("before the first run", x.element(0, -1), NONE);
        tape(x, bytes(3, 1, 128, 255, 0));
        x.script(0);
        due("before the run", x.element(0, 0), NONE);
        x.run(0);
        due("element(0, -1)", x.element(0, -1), 3);
        due("element(0, 0)", x.element(0, 0), 1);
        due("element(0, 1)", x.element(0, 1), 128);
        due("element(0, 2)", x.element(0, 2), 255);
        due("element(0, 3)", x.element(0, 3), NONE);
        due("element(0, -2)", x.element(0, -2), NONE);
        due("element(0, MAX)", x.element(0, Integer.MAX_VALUE), NONE);
        due("element(0, MIN)", x.element(0, Integer.MIN_VALUE), NONE);
        due("element(1, -1)", x.element(1, -1), 0);
        due("element(1, 0)", x.element(1, 0), NONE);
        due("element(2, -1)", x.element(2, -1), NONE);
        due("element(2, 0)", x.element(2, 0), NONE);
        due("element(-1, -1)", x.element(-1, -1), NONE);
        due("element(24, -1)", x.element(24, -1), NONE);
        due("element(MAX, 0)", x.element(Integer.MAX_VALUE, 0), NONE);
        due("element(MIN, 0)", x.element(Integer.MIN_VALUE, 0), NONE);
        tape(x, bytes(101));
        x.script(1);
        due("until the next run", x.element(0, 1), 128);
        x.run(0);
        due("after a failure", x.element(0, 1), NONE);
        due("after a failure, size", x.element(0, -1), NONE);
    }

    private static void sha() {
        about("promise 9");
        for (int size : new int[] {0, 1, 3, 55, 56, 57, 63, 64, 65, 118, 119, 120, 128, 200, 380, 400}) {
            ScriptStack x = new ScriptStack();
            byte[] text = filled(size, size);
            tape(x, text);
            due("sha() of " + size, x.sha(), 32);
            due("the tape is empty", x.end(1), REFUSED);
            outHas("of " + size, x, sha256(text));
        }
    }

    private static void sign() {
        about("promise 10");
        ScriptStack x = new ScriptStack();
        for (int size : new int[] {0, 1, 23, 24, 31, 32, 79, 80}) {
            byte[] key = filled(size, size + 100);
            tape(x, key);
            due("sign() of " + size, x.sign(), 8);
            due("the tape is empty", x.end(1), REFUSED);
            outHas("of " + size, x, signature(key));
        }
        int before = x.octet(0);
        tape(x, filled(81, 1));
        due("sign() of 81", x.sign(), REFUSED);
        due("the tape stays", x.end(81), 81);
        due("OUT stays", x.octet(0), before);
        x.sha();
        due("32 bytes of sha", x.octet(31) == NONE, false);
        x.sign();
        due("8 bytes again", x.octet(8), NONE);
    }

    private static void back() {
        about("promise 11");
        ScriptStack x = new ScriptStack();
        due("back() of nothing", x.back(), 1);
        due("again", x.back(), 2);
        x.script(0);
        x.run(0);
        due("two bytes 0 were on the tape", x.depth(), 2);
        tape(x, bytes(9));
        x.sign();
        byte[] made = signature(bytes(9));
        tape(x, bytes(1, 7));
        due("back() of 8 bytes", x.back(), 11);
        x.script(0);
        left("back() behind the tape", x, bytes(7), made);
        due("OUT stays", x.back(), 9);
        x.end(0);
        x.sha();
        due("back() of 32 bytes", x.back(), 33);
        x.script(0);
        left("32 bytes", x, sha256(bytes()));
        tape(x, filled(367, 0));
        due("back() on 367", x.back(), 400);
        due("back() on 400", x.back(), FULL);
        x.end(368);
        due("back() on 368", x.back(), FULL);
        due("the tape stays", x.end(368), 368);
        x.end(10);
        x.sign();
        tape(x, filled(379, 0));
        due("back() on 379", x.back(), 388);
        due("back() on 388", x.back(), 397);
        due("back() on 397", x.back(), FULL);
    }

    private static void octet() {
        about("promise 12");
        ScriptStack x = new ScriptStack();
        due("of nothing", x.octet(0), NONE);
        due("of nothing, -1", x.octet(-1), NONE);
        x.sha();
        byte[] want = sha256(bytes());
        for (int i = 0; i < 32; i++) {
            due("octet(" + i + ")", x.octet(i), want[i] & 255);
        }
        for (int i : new int[] {32, -1, 400, Integer.MAX_VALUE, Integer.MIN_VALUE}) {
            due("octet(" + i + ")", x.octet(i), NONE);
        }
        x.feed(1, 2, 3, 4, 5);
        due("feed leaves OUT", x.octet(0), want[0] & 255);
        x.message();
        due("message leaves OUT", x.octet(31), want[31] & 255);
        x.run(0);
        due("run leaves OUT", x.octet(31), want[31] & 255);
    }
}

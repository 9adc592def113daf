import java.util.List;
import java.util.function.ToIntFunction;

/**
 * Each sentence of promises 1 to 12 that names a boundary case has a method here, which begins with
 * the sentence: at the boundary, one below it and one beyond it, and what a call leaves as it was.
 */
public final class CallsBoundaryTest extends Checks {
    public static void main(String[] args) {
        newObjectHasNothing();
        newObjectIsItsOwn();
        feedBringsTwenty();
        feedHighestFirst();
        feedBeyond400();
        endCuts();
        endBelow0OrBeyond();
        scriptBecomesTheTape();
        scriptOfAnotherOne();
        scriptOfMoreThan80();
        messageOfEverySize();
        messageEmptiesTheTape();
        runForAHeight();
        runLeavesTheRest();
        depthBeforeTheFirstRun();
        depthIfNothingFailed();
        depthOfTheLatestRun();
        elementOfEachPlace();
        elementSize();
        elementIfThereIsNone();
        elementIfSomethingFailed();
        elementOfTheLatestRun();
        shaOfTheTape();
        signOf0To80();
        signOfMore();
        backBringsOut();
        backBeyond400();
        octetOfEachPlace();
        octetIfThereIsNone();
        asManyCallsAsAnObjectHas();
        finish("all boundaries of the calls hold");
    }

    // ---- what a call leaves as it was

    private static final String TAPE = "TAPE", OUT = "OUT", MESSAGE = "MESSAGE", SCRIPTS = "SCRIPTS", LATEST = "LATEST RUN";

    /** How OUT comes to have 0, 8 or 32 bytes. */
    private static final int NO_OUT = 0, SIGNED_OUT = 8, SHA_OUT = 32;

    /** An object with something of its own in each of its parts; the latest run was of other SCRIPTS. */
    private static ScriptStack rich(int outSize, byte[] tape) {
        ScriptStack x = new ScriptStack();
        tape(x, rising(45));
        x.message();
        load(x, 0, bytes(1, 31, 0));
        load(x, 1, bytes(3, 32, 0, 255));
        x.run(0);
        load(x, 0, bytes(2, 41, 42));
        load(x, 1, bytes(1, 43));
        tape(x, rising(33));
        if (outSize == SIGNED_OUT) {
            x.sign();
        } else if (outSize == SHA_OUT) {
            x.sha();
        }
        x.end(0);
        tape(x, tape);
        return x;
    }

    private static String octets(ScriptStack x) {
        StringBuilder all = new StringBuilder();
        for (int i = -1; i <= 32; i++) {
            all.append(x.octet(i)).append(' ');
        }
        return all.toString();
    }

    private static String elements(ScriptStack x) {
        StringBuilder all = new StringBuilder().append(x.depth());
        for (int k = 0; k <= x.depth(); k++) {
            all.append(" /");
            for (int i = -1; i <= x.element(k, -1); i++) {
                all.append(' ').append(x.element(k, i));
            }
        }
        return all.toString();
    }

    // each part is read before what it takes to read the next one changes it
    private static String[][] parts(ScriptStack x, int tapeSize) {
        String out = octets(x);
        String latest = elements(x);
        String tape = x.end(tapeSize + 1) + " " + x.end(tapeSize) + " " + x.sha() + " " + octets(x);
        String message = x.sign() + " " + octets(x);
        String scripts = x.run(0) + " " + elements(x);
        return new String[][] {{OUT, out}, {LATEST, latest}, {TAPE, tape}, {MESSAGE, message}, {SCRIPTS, scripts}};
    }

    /** The call answers so, and of a twin that had no such call differs at most in the parts named. */
    private static void changesOnly(String what, int outSize, byte[] tape, ToIntFunction<ScriptStack> call, int answer,
            String... changed) {
        ScriptStack x = rich(outSize, tape);
        due(what, call.applyAsInt(x), answer);
        String[][] got = parts(x, tape.length);
        String[][] want = parts(rich(outSize, tape), tape.length);
        for (int i = 0; i < got.length; i++) {
            if (!List.of(changed).contains(got[i][0])) {
                due(what + ": " + got[i][0] + " afterwards", got[i][1], want[i][1]);
            }
        }
    }

    private static void changesNothing(String what, int outSize, int tapeSize, ToIntFunction<ScriptStack> call, int answer) {
        changesOnly(what + " on " + tapeSize, outSize, rising(tapeSize), call, answer);
    }

    // ---- the promises

    private static void newObjectHasNothing() {
        about("Promise 1: Nothing on the TAPE, in the SCRIPTS and in OUT");
        ScriptStack x = new ScriptStack();
        due("end(1)", x.end(1), REFUSED);
        due("end(0)", x.end(0), 0);
        due("octet(0)", x.octet(0), NONE);
        due("depth() before a run", x.depth(), NONE);
        due("run(0)", x.run(0), false);
        due("depth() of no scripts", x.depth(), 0);
        due("back()", x.back(), 1);
        ScriptStack y = new ScriptStack();
        y.sha();
        outHas("the SHA-256 of nothing", y, sha256(bytes()));
    }

    private static void newObjectIsItsOwn() {
        about("Promise 1: A new object");
        ScriptStack x = rich(SHA_OUT, rising(400));
        ScriptStack y = new ScriptStack();
        due("another one's TAPE", y.end(1), REFUSED);
        due("another one's OUT", y.octet(0), NONE);
        due("another one's latest run", y.depth(), NONE);
        y.sign();
        outHas("another one's MESSAGE", y, signature(bytes(), new byte[32]));
        left("another one's SCRIPTS", y);
        due("the first one's TAPE", x.end(400), 400);
        due("the first one's latest run", x.depth(), 3);
        outHas("the first one's OUT", x, sha256(rising(33)));
    }

    private static void feedBringsTwenty() {
        about("Promise 2: Twenty bytes come to the TAPE: how many it has");
        ScriptStack x = new ScriptStack();
        for (int i = 1; i <= 20; i++) {
            due("feed " + i, x.feed(i, i, i, i, i), 20 * i);
        }
        for (int size : new int[] {0, 1, 19, 20, 21, 79, 80, 81, 379, 380}) {
            changesOnly("feed on " + size, SIGNED_OUT, rising(size), y -> y.feed(1, 2, 3, 4, 5), size + 20, TAPE);
        }
    }

    private static void feedHighestFirst() {
        about("Promise 2: five times four, the highest of each first");
        ScriptStack x = new ScriptStack();
        tape(x, bytes(9));
        x.feed(0x01020304, 0x7f808182, MIN, MAX, -1);
        x.sha();
        outHas("behind a byte", x, sha256(bytes(9, 1, 2, 3, 4, 127, 128, 129, 130, 128, 0, 0, 0, 127, 255, 255, 255,
            255, 255, 255, 255)));
        x.feed(0, 0, 0, 0, 1);
        x.sha();
        byte[] want = new byte[20];
        want[19] = 1;
        outHas("zeros and a last 1", x, sha256(want));
    }

    private static void feedBeyond400() {
        about("Promise 2: FULL if it would have more than 400");
        for (int size : new int[] {379, 380}) {
            due("feed on " + size, rich(SHA_OUT, rising(size)).feed(1, 2, 3, 4, 5), size + 20);
        }
        for (int size : new int[] {381, 382, 399, 400}) {
            for (int outSize : new int[] {NO_OUT, SIGNED_OUT, SHA_OUT}) {
                changesNothing("feed", outSize, size, x -> x.feed(1, 2, 3, 4, 5), FULL);
            }
        }
        ScriptStack x = rich(NO_OUT, rising(400));
        due("feed on 400", x.feed(0, 0, 0, 0, 0), FULL);
        due("feed on 400 again", x.feed(0, 0, 0, 0, 0), FULL);
        due("end(380)", x.end(380), 380);
        due("feed on 380", x.feed(0, 0, 0, 0, 0), 400);
    }

    private static void endCuts() {
        about("Promise 3: The TAPE is cut to its first n bytes: n");
        for (int size : new int[] {0, 1, 20, 400}) {
            for (int n : new int[] {0, 1, size - 1, size}) {
                if (n >= 0 && n <= size) {
                    ScriptStack x = rich(SIGNED_OUT, rising(size));
                    due("end(" + n + ") on " + size, x.end(n), n);
                    due("end(" + (n + 1) + ") then", x.end(n + 1), REFUSED);
                    x.sha();
                    outHas("its first " + n, x, sha256(rising(n)));
                    changesOnly("end(" + n + ") on " + size, SHA_OUT, rising(size), y -> y.end(n), n, n == size ? "" : TAPE);
                }
            }
        }
        ScriptStack x = rich(NO_OUT, rising(20));
        x.end(3);
        due("feed behind a cut", x.feed(0, 0, 0, 0, 0), 23);
        x.sha();
        outHas("nothing of what was cut comes back", x, sha256(join(rising(3), new byte[20])));
    }

    private static void endBelow0OrBeyond() {
        about("Promise 3: REFUSED if it has less, or n is below 0");
        for (int size : new int[] {0, 1, 20, 80, 81, 399, 400}) {
            for (int n : new int[] {size + 1, size + 2, 401, 1000, MAX, -1, -2, -size - 1, MIN}) {
                changesNothing("end(" + n + ")", SHA_OUT, size, x -> x.end(n), REFUSED);
            }
        }
    }

    private static void scriptBecomesTheTape() {
        about("Promise 4: SCRIPT which (0, 1) becomes the TAPE, which is empty then: its bytes");
        for (int which = 0; which < 2; which++) {
            int w = which;
            for (int size : new int[] {0, 1, 79, 80}) {
                byte[] script = size == 0 ? bytes() : join(bytes(ONE), filled(size - 1, NOT));
                changesOnly("script(" + w + ") of " + size, SHA_OUT, script, x -> x.script(w), size, TAPE, SCRIPTS);
                ScriptStack x = rich(SHA_OUT, script);
                x.script(w);
                due("end(1) then", x.end(1), REFUSED);
                due("end(0) then", x.end(0), 0);
                x.sha();
                outHas("the TAPE then", x, sha256(bytes()));
            }
        }
        ScriptStack x = loaded(bytes(1, 5), bytes(1, 6));
        load(x, 0, bytes(1, 7));
        left("script(0) leaves SCRIPT 1", x, bytes(7), bytes(6));
        load(x, 1, bytes(1, 8));
        left("script(1) leaves SCRIPT 0", x, bytes(7), bytes(8));
        load(x, 0, filled(80, 0));
        load(x, 0, bytes(1, 9));
        left("nothing of a longer one is left", x, bytes(9), bytes(8));
        load(x, 0, bytes());
        left("nothing of any is left", x, bytes(8));
        x.feed(0, 0, 0, 0, 0);
        x.end(0);
        left("the TAPE is no part of it then", x, bytes(8));
    }

    private static void scriptOfAnotherOne() {
        about("Promise 4: REFUSED for another one (the TAPE stays)");
        for (int which : new int[] {-1, 2, -2, 3, 256, 257, MIN, MIN + 1, MAX}) {
            for (int size : new int[] {0, 1, 80, 81, 400}) {
                changesNothing("script(" + which + ")", SIGNED_OUT, size, x -> x.script(which), REFUSED);
            }
        }
    }

    private static void scriptOfMoreThan80() {
        about("Promise 4: REFUSED for more than 80 bytes (the TAPE stays)");
        for (int which = 0; which < 2; which++) {
            int w = which;
            due("script(" + w + ") of 79", rich(SHA_OUT, rising(79)).script(w), 79);
            due("script(" + w + ") of 80", rich(SHA_OUT, rising(80)).script(w), 80);
            for (int size : new int[] {81, 82, 160, 399, 400}) {
                changesNothing("script(" + w + ")", SHA_OUT, size, x -> x.script(w), REFUSED);
            }
            ScriptStack x = rich(SHA_OUT, rising(81));
            due("script(" + w + ") of 81", x.script(w), REFUSED);
            due("end(80)", x.end(80), 80);
            due("script(" + w + ") of 80 then", x.script(w), 80);
        }
    }

    private static void messageOfEverySize() {
        about("Promise 5: The MESSAGE becomes the HASH of the TAPE: how many bytes it had");
        for (int size = 0; size <= 400; size += size < 70 || size > 390 ? 1 : 8) {
            ScriptStack x = rich(NO_OUT, rising(size));
            due("message() of " + size, x.message(), size);
            tape(x, bytes(3));
            x.sign();
            outHas("for " + size, x, signature(bytes(3), hash(rising(size))));
        }
        ScriptStack x = rich(NO_OUT, rising(5));
        x.message();
        due("message() of nothing", x.message(), 0);
        x.sign();
        outHas("is not the MESSAGE before, nor zeros", x, signature(bytes(), hash(bytes())));
    }

    private static void messageEmptiesTheTape() {
        about("Promise 5: the TAPE is empty then");
        for (int size : new int[] {0, 1, 80, 81, 399, 400}) {
            changesOnly("message() of " + size, SHA_OUT, rising(size), x -> x.message(), size, TAPE, MESSAGE);
            ScriptStack x = rich(SHA_OUT, rising(size));
            x.message();
            due("end(1) behind " + size, x.end(1), REFUSED);
            due("end(0) behind " + size, x.end(0), 0);
            due("feed behind " + size, x.feed(0, 0, 0, 0, 0), 20);
        }
    }

    private static void runForAHeight() {
        about("Promise 6: Runs the SCRIPTS for a HEIGHT: true if they succeed");
        for (int height : new int[] {MIN, -1, 0, 1, MAX}) {
            ScriptStack x = loaded(bytes(ONE), join(push(number(height)), bytes(AFTER)));
            due("at " + height, x.run(height), true);
            due("below " + height, height != MIN && x.run(height - 1), false);
            due("the HEIGHT before does not count", x.run(height), true);
            due("without AFTER", loaded(bytes(ONE), bytes()).run(height), true);
            due("without ELEMENTS", loaded(bytes(), bytes()).run(height), false);
            due("that fails", loaded(bytes(ONE), bytes(101)).run(height), false);
        }
        ScriptStack x = loaded(bytes(2, 1, 44), bytes(AFTER, ONE));
        due("both SCRIPTS, below", x.run(299), false);
        due("both SCRIPTS, at", x.run(300), true);
    }

    private static void runLeavesTheRest() {
        about("Promise 6: Runs the SCRIPTS");
        for (int size : new int[] {0, 1, 81, 400}) {
            changesOnly("run(0) on " + size, SHA_OUT, rising(size), x -> x.run(0) ? 1 : 0, 1, LATEST);
            changesOnly("run(MIN) on " + size, SIGNED_OUT, rising(size), x -> x.run(MIN) ? 1 : 0, 1, LATEST);
        }
        ScriptStack x = loaded(bytes(1, 5, SHA), bytes(1, 6, HASH, EQUAL, NOT));
        left("SCRIPTS stay as they are", x, number(1));
        left("and again", x, number(1));
        ScriptStack y = loaded(bytes(ONE), bytes(101));
        fails("a run that fails", y);
        fails("fails again", y);
    }

    private static void depthBeforeTheFirstRun() {
        about("Promise 7: before the first run, NONE");
        ScriptStack x = new ScriptStack();
        due("depth()", x.depth(), NONE);
        load(x, 0, bytes(ONE));
        due("depth() with a SCRIPT", x.depth(), NONE);
        x.run(0);
        due("depth() then", x.depth(), 1);
    }

    private static void depthIfNothingFailed() {
        about("Promise 7: How many ELEMENTS the latest run has left, if nothing failed (no END may lack); else NONE");
        for (int count : new int[] {0, 1, 2, 23, 24}) {
            ScriptStack x = loaded(filled(count, 0), bytes());
            due("run of " + count, x.run(0), false);
            due("depth() of " + count + ", none of them true", x.depth(), count);
            ScriptStack y = loaded(filled(count, ONE), bytes());
            due("run of " + count + " that are true", y.run(0), count > 0);
            due("depth() of " + count, y.depth(), count);
        }
        ScriptStack tooMany = loaded(filled(25, ONE), bytes());
        tooMany.run(0);
        due("depth() of 25", tooMany.depth(), NONE);
        for (int code : new int[] {IF, UNLESS}) {
            ScriptStack x = loaded(bytes(ONE, ONE, code), bytes());
            x.run(0);
            due("depth() where the END lacks", x.depth(), NONE);
            load(x, 1, bytes(END));
            x.run(0);
            due("depth() where SCRIPT 1 has it", x.depth(), NONE);
            load(x, 1, bytes());
            load(x, 0, bytes(ONE, ONE, code, END));
            x.run(0);
            due("depth() where it does not lack", x.depth(), 1);
        }
    }

    private static void depthOfTheLatestRun() {
        about("Promise 7: the latest run");
        ScriptStack x = loaded(bytes(ONE), bytes(ONE, ONE));
        x.run(0);
        due("three", x.depth(), 3);
        load(x, 1, bytes(101));
        due("until the next run", x.depth(), 3);
        x.run(0);
        due("that fails", x.depth(), NONE);
        load(x, 1, bytes());
        due("until the next run", x.depth(), NONE);
        x.run(0);
        due("one", x.depth(), 1);
        changesNothing("depth()", SHA_OUT, 80, y -> y.depth(), 3);
    }

    private static void elementOfEachPlace() {
        about("Promise 8: Byte i of ELEMENT k (0 the first), as 0 to 255");
        byte[] values = bytes(0, 1, 127, 128, 254, 255);
        ScriptStack x = loaded(push(values), push(rising(75)));
        x.run(0);
        for (int i = 0; i < values.length; i++) {
            due("element(0, " + i + ")", x.element(0, i), values[i] & 255);
        }
        for (int i = 0; i < 75; i++) {
            due("element(1, " + i + ")", x.element(1, i), rising(75)[i] & 255);
        }
        ScriptStack full = loaded(filled(12, ONE), join(filled(10, ONE), bytes(1, 7, 1, 8)));
        full.run(0);
        due("element(0, 3)", full.element(0, 3), 1);
        due("element(22, 0)", full.element(22, 0), 7);
        due("element(23, 0)", full.element(23, 0), 8);
        changesNothing("element(2, 2)", SHA_OUT, 80, y -> y.element(2, 2), 255);
    }

    private static void elementSize() {
        about("Promise 8: for i -1 how many bytes");
        for (int size : new int[] {0, 1, 2, 74, 75}) {
            ScriptStack x = loaded(bytes(ONE), push(rising(size)));
            x.run(0);
            due("element(1, -1) of " + size, x.element(1, -1), size);
            due("element(0, -1)", x.element(0, -1), 4);
            due("element(1, -2) of " + size, x.element(1, -2), NONE);
            due("element(1, 0) of " + size, x.element(1, 0), size == 0 ? NONE : 1);
        }
        changesNothing("element(2, -1)", SHA_OUT, 80, y -> y.element(2, -1), 3);
    }

    private static void elementIfThereIsNone() {
        about("Promise 8: NONE if there is none");
        ScriptStack x = new ScriptStack();
        due("before the first run, element(0, -1)", x.element(0, -1), NONE);
        due("before the first run, element(0, 0)", x.element(0, 0), NONE);
        x.run(0);
        due("of no ELEMENTS, element(0, -1)", x.element(0, -1), NONE);
        due("of no ELEMENTS, element(-1, -1)", x.element(-1, -1), NONE);
        load(x, 0, bytes(2, 7, 8, 0, 1, 9));
        due("before the run, element(0, 0)", x.element(0, 0), NONE);
        x.run(0);
        for (int i : new int[] {-2, 2, 3, 79, 80, 160, MIN, MAX}) {
            due("element(0, " + i + ")", x.element(0, i), NONE);
        }
        for (int i : new int[] {-2, 0, 1, MIN, MAX}) {
            due("element(1, " + i + ")", x.element(1, i), NONE);
        }
        for (int k : new int[] {-1, 3, 4, 23, 24, 25, MIN, MAX}) {
            due("element(" + k + ", -1)", x.element(k, -1), NONE);
            due("element(" + k + ", 0)", x.element(k, 0), NONE);
        }
        ScriptStack full = loaded(filled(24, ONE), bytes());
        full.run(0);
        due("element(23, -1) of 24", full.element(23, -1), 4);
        due("element(24, -1) of 24", full.element(24, -1), NONE);
        due("element(24, 0) of 24", full.element(24, 0), NONE);
        ScriptStack gone = loaded(bytes(2, 7, 8, 2, 9, 9), bytes(DROP, DROP, 1, 7));
        gone.run(0);
        due("a byte of one that went", gone.element(0, 1), NONE);
        due("one that went", gone.element(1, 0), NONE);
        changesNothing("element(3, 0)", SHA_OUT, 80, y -> y.element(3, 0), NONE);
        changesNothing("element(-1, -1)", SHA_OUT, 80, y -> y.element(-1, -1), NONE);
        changesNothing("element(0, 1)", SHA_OUT, 80, y -> y.element(0, 1), NONE);
    }

    private static void elementIfSomethingFailed() {
        about("Promise 8: NONE if something failed");
        ScriptStack x = loaded(bytes(2, 7, 8), bytes());
        x.run(0);
        due("nothing failed", x.element(0, 1), 8);
        for (byte[] second : new byte[][] {bytes(101), bytes(ONE, IF), bytes(END), bytes(1), filled(24, ONE)}) {
            load(x, 1, second);
            due("until the next run", x.element(0, 1), 8);
            x.run(0);
            due("element(0, 1)", x.element(0, 1), NONE);
            due("element(0, -1)", x.element(0, -1), NONE);
            load(x, 1, bytes());
            x.run(0);
            due("nothing failed then", x.element(0, 1), 8);
        }
        load(x, 1, bytes(0));
        due("not true", x.run(0), false);
        due("is not failed", x.element(0, 1), 8);
    }

    private static void elementOfTheLatestRun() {
        about("Promise 8: that the latest run has left");
        ScriptStack x = loaded(bytes(2, 7, 8, 1, 9), bytes());
        x.run(0);
        load(x, 0, bytes(1, 5));
        x.feed(1, 2, 3, 4, 5);
        x.sign();
        x.message();
        x.sha();
        due("until the next run", x.element(0, 1), 8);
        due("until the next run, the last", x.element(1, 0), 9);
        x.run(0);
        due("then", x.element(0, 0), 5);
        due("no byte of the run before", x.element(0, 1), NONE);
        due("no ELEMENT of the run before", x.element(1, 0), NONE);
    }

    private static void shaOfTheTape() {
        about("Promise 9: OUT becomes the SHA-256 of the TAPE, which is empty then: 32");
        for (int size : new int[] {0, 1, 55, 56, 63, 64, 65, 80, 81, 119, 120, 399, 400}) {
            for (int outSize : new int[] {NO_OUT, SIGNED_OUT, SHA_OUT}) {
                changesOnly("sha() of " + size, outSize, rising(size), x -> x.sha(), 32, TAPE, OUT);
                ScriptStack x = rich(outSize, rising(size));
                x.sha();
                outHas("sha() of " + size, x, sha256(rising(size)));
                due("end(1) then", x.end(1), REFUSED);
                due("end(0) then", x.end(0), 0);
                due("sha() again", x.sha(), 32);
                outHas("of nothing then", x, sha256(bytes()));
            }
        }
    }

    private static void signOf0To80() {
        about("Promise 10: OUT becomes the SIGNATURE of the TAPE (0 to 80 bytes); the TAPE is empty then: 8");
        byte[] message = hash(rising(45));
        for (int size = 0; size <= 80; size++) {
            ScriptStack x = rich(SHA_OUT, rising(size));
            due("sign() of " + size, x.sign(), 8);
            outHas("sign() of " + size, x, signature(rising(size), message));
            due("end(1) then", x.end(1), REFUSED);
            due("end(0) then", x.end(0), 0);
            due("sign() again", x.sign(), 8);
            outHas("of nothing then", x, signature(bytes(), message));
        }
        for (int size : new int[] {0, 1, 79, 80}) {
            changesOnly("sign() of " + size, SHA_OUT, rising(size), x -> x.sign(), 8, TAPE, OUT);
        }
    }

    private static void signOfMore() {
        about("Promise 10: REFUSED if it has more (it stays)");
        for (int size : new int[] {81, 82, 100, 399, 400}) {
            for (int outSize : new int[] {NO_OUT, SIGNED_OUT, SHA_OUT}) {
                changesNothing("sign()", outSize, size, x -> x.sign(), REFUSED);
            }
        }
        ScriptStack x = rich(NO_OUT, rising(81));
        due("sign() of 81", x.sign(), REFUSED);
        due("end(80)", x.end(80), 80);
        due("sign() of 80 then", x.sign(), 8);
        outHas("its first 80", x, signature(rising(80), hash(rising(45))));
    }

    private static byte[] outOf(int outSize) {
        byte[] key = rising(33);
        if (outSize == NO_OUT) {
            return bytes();
        }
        return outSize == SIGNED_OUT ? signature(key, hash(rising(45))) : sha256(key);
    }

    private static void backBringsOut() {
        about("Promise 11: A byte, how many bytes OUT has, and these come to the TAPE, behind it: how many it has");
        for (int outSize : new int[] {NO_OUT, SIGNED_OUT, SHA_OUT}) {
            for (int size : new int[] {0, 1, 20, 366 - outSize}) {
                ScriptStack x = rich(outSize, rising(size));
                due("back() of " + outSize + " on " + size, x.back(), size + 1 + outSize);
                outHas("OUT stays", x, outOf(outSize));
                due("back() again", x.back(), size + 2 + 2 * outSize);
                x.sha();
                byte[] pushed = push(outOf(outSize));
                outHas("the TAPE", x, sha256(join(rising(size), pushed, pushed)));
                changesOnly("back()", outSize, rising(size), y -> y.back(), size + 1 + outSize, TAPE);
            }
        }
        ScriptStack x = rich(SHA_OUT, bytes());
        x.back();
        x.script(0);
        x.script(1);
        left("it is a push for a script", x, outOf(SHA_OUT));
    }

    private static void backBeyond400() {
        about("Promise 11: FULL if it would have more than 400");
        for (int outSize : new int[] {NO_OUT, SIGNED_OUT, SHA_OUT}) {
            int most = 399 - outSize;
            due("back() on one less", rich(outSize, rising(most - 1)).back(), 399);
            ScriptStack x = rich(outSize, rising(most));
            due("back() on " + most, x.back(), 400);
            due("back() then", x.back(), FULL);
            x.sha();
            outHas("all came", x, sha256(join(rising(most), push(outOf(outSize)))));
            for (int size : new int[] {most + 1, 400}) {
                changesNothing("back() of " + outSize, outSize, size, y -> y.back(), FULL);
            }
        }
        changesNothing("back() of 8", SIGNED_OUT, 399, x -> x.back(), FULL);
        changesNothing("back() of 32", SHA_OUT, 399, x -> x.back(), FULL);
        changesNothing("back() of 32, room for 31", SHA_OUT, 369, x -> x.back(), FULL);
    }

    private static void octetOfEachPlace() {
        about("Promise 12: Byte i of OUT, as 0 to 255");
        for (int outSize : new int[] {SIGNED_OUT, SHA_OUT}) {
            outHas("OUT of " + outSize, rich(outSize, rising(3)), outOf(outSize));
        }
        int least = 255;
        int most = 0;
        for (int size = 0; size < 60; size++) {
            ScriptStack x = new ScriptStack();
            tape(x, rising(size));
            x.sha();
            for (int i = 0; i < 32; i++) {
                least = Math.min(least, x.octet(i));
                most = Math.max(most, x.octet(i));
            }
        }
        due("the least of many", least, 0);
        due("the most of many", most, 255);
        changesNothing("octet(31)", SHA_OUT, 80, x -> x.octet(31), outOf(SHA_OUT)[31] & 255);
    }

    private static void octetIfThereIsNone() {
        about("Promise 12: NONE if there is none");
        for (int outSize : new int[] {NO_OUT, SIGNED_OUT, SHA_OUT}) {
            ScriptStack x = rich(outSize, rising(3));
            for (int i : new int[] {-1, -2, outSize, outSize + 1, 32, 33, 400, MIN, MAX}) {
                due("octet(" + i + ") of " + outSize, x.octet(i), NONE);
                changesNothing("octet(" + i + ") of " + outSize, outSize, 3, y -> y.octet(i), NONE);
            }
            due("octet of the last of " + outSize, x.octet(outSize - 1) == NONE, outSize == NO_OUT);
        }
        ScriptStack x = rich(SHA_OUT, bytes());
        x.sign();
        due("octet(7) of a SIGNATURE behind a SHA-256", x.octet(7) == NONE, false);
        due("octet(8) of a SIGNATURE behind a SHA-256", x.octet(8), NONE);
    }

    private static void asManyCallsAsAnObjectHas() {
        about("An object is used for at most 512 calls after it has been made");
        ScriptStack x = loaded(bytes(ONE), bytes(2, 7, 8));
        for (int call = 7; call < 510; call++) {
            x.run(call);
        }
        due("call 510, run", x.run(0), true);
        due("call 511, depth", x.depth(), 2);
        due("call 512, element(1, 1)", x.element(1, 1), 8);
    }
}

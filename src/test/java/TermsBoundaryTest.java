import java.util.Arrays;

/**
 * Each sentence of the document's "Terms" that names a boundary case has a method here, which begins
 * with the sentence: at the boundary, one below it and one beyond it.
 */
public final class TermsBoundaryTest extends Checks {
    public static void main(String[] args) {
        tapeHasNoneAtFirst();
        tapeHasAtMost400();
        outHasNoneAtFirst();
        hashHas32Bytes();
        hashOfEverySize();
        scriptsHaveNoneAtFirst();
        scriptsHave0To80();
        messageIsZerosAtFirst();
        messageIs32Bytes();
        signatureIsFirst8Bytes();

        script0ThenScript1();
        stackHasAtMost24();
        stackThatIsFull();
        elementsHaveAtMost80();
        stackHasNoneAtFirst();
        succeedIfNothingFails();
        eachHasItsEnds();
        lastElementThereMustBe();
        lastElementIsTrue();
        numbersHave0To4Bytes();
        numbersOfMoreFail();
        numbersHaveASign();
        numbersAreWritten();
        tooFewElements();

        pushesOfSoManyBytes();
        pushesThatLack();
        dupDropSwapOver();
        sizeOfTheLast();
        equalTwoGo();
        verifyNotTrue();
        notOfANumber();
        addAndSubWrap();
        lessDoesNotWrap();
        andOfBoth();
        shaAndHashOfElements();
        signedOrNot();
        afterBelow();
        ifAndUnless();
        oneOfOneFails();
        oneIsANumber();
        manyNumberOfKeys();
        manyNumberOfSignatures();
        manyLaterOnesLaterKeys();
        manyAllGo();
        othersFail();
        notDoneIsPassedOver();
        passedOverMayNotLack();
        passedOverBranches();
        elseEachTime();
        elseAndEndWithoutOne();
        finish("all boundaries of the terms hold");
    }

    // ---- THE TAPE, OUT, HASH, the SCRIPTS, the MESSAGE, SIGNATURES

    private static void tapeHasNoneAtFirst() {
        about("THE TAPE has bytes, none at first");
        due("end(1)", new ScriptStack().end(1), REFUSED);
        due("end(0)", new ScriptStack().end(0), 0);
        due("end(-1)", new ScriptStack().end(-1), REFUSED);
        due("feed", new ScriptStack().feed(0, 0, 0, 0, 0), 20);
        due("message()", new ScriptStack().message(), 0);
        due("script(0)", new ScriptStack().script(0), 0);
    }

    /** OUT has none, so that each back() brings one byte alone to the TAPE. */
    private static ScriptStack withTapeOf(int size) {
        ScriptStack x = new ScriptStack();
        tape(x, rising(size));
        return x;
    }

    private static void tapeHasAtMost400() {
        about("THE TAPE has at most 400 bytes");
        ScriptStack x = withTapeOf(398);
        due("back() on 398", x.back(), 399);
        due("back() on 399", x.back(), 400);
        due("back() on 400", x.back(), FULL);
        due("end(401)", x.end(401), REFUSED);
        due("end(400)", x.end(400), 400);
        x.sha();
        outHas("the 400 bytes", x, sha256(Arrays.copyOf(rising(398), 400)));

        due("feed on 379", withTapeOf(379).feed(0, 0, 0, 0, 0), 399);
        due("feed on 380", withTapeOf(380).feed(0, 0, 0, 0, 0), 400);
        due("feed on 381", withTapeOf(381).feed(0, 0, 0, 0, 0), FULL);
    }

    private static void outHasNoneAtFirst() {
        about("OUT has bytes, none at first");
        ScriptStack x = new ScriptStack();
        due("octet(-1)", x.octet(-1), NONE);
        due("octet(0)", x.octet(0), NONE);
        due("octet(1)", x.octet(1), NONE);
        due("back()", x.back(), 1);
        x.sha();
        outHas("its size alone came to the TAPE", x, sha256(bytes(0)));
    }

    private static void hashHas32Bytes() {
        about("HASH: SHA-256 of the SHA-256 of bytes: 32 bytes");
        left("HASH SIZE", bytes(1, 9, HASH, SIZE), hash(bytes(9)), number(32));
        left("HASH of 31", join(push(rising(31)), bytes(HASH)), hash(rising(31)));
        left("HASH of 32", join(push(rising(32)), bytes(HASH)), hash(rising(32)));
        left("HASH of 33", join(push(rising(33)), bytes(HASH)), hash(rising(33)));
        left("HASH is SHA twice", bytes(1, 9, SHA, SHA), hash(bytes(9)));
        left("HASH HASH", bytes(1, 9, HASH, HASH), hash(hash(bytes(9))));
    }

    // the padding of SHA-256 changes its form at 55, 56 and 64 bytes of each block
    private static void hashOfEverySize() {
        about("SHA-256 (of FIPS 180-4)");
        for (int size = 0; size <= 400; size++) {
            ScriptStack x = withTapeOf(size);
            x.sha();
            outHas("of " + size, x, sha256(rising(size)));
        }
        ScriptStack x = new ScriptStack();
        tape(x, filled(400, 255));
        x.sha();
        outHas("of 400 bytes 255", x, sha256(filled(400, 255)));
    }

    private static void scriptsHaveNoneAtFirst() {
        about("SCRIPTS 0 and 1 have none at first");
        ScriptStack neither = new ScriptStack();
        left("neither", neither);
        ScriptStack first = new ScriptStack();
        load(first, 0, bytes(1, 5));
        left("SCRIPT 0 alone", first, bytes(5));
        ScriptStack second = new ScriptStack();
        load(second, 1, bytes(1, 6));
        left("SCRIPT 1 alone", second, bytes(6));
    }

    private static void scriptsHave0To80() {
        about("SCRIPTS 0 and 1 have 0 to 80 bytes each");
        for (int which = 0; which < 2; which++) {
            ScriptStack x = loaded(bytes(101), bytes(101));
            load(x, 1 - which, bytes());
            load(x, which, bytes());
            left("0 bytes in " + which, x);
            for (int size : new int[] {1, 2, 79, 80}) {
                // each NOT turns the truth round, so that a byte that lacks would show
                load(x, which, join(bytes(ONE), filled(size - 1, NOT)));
                left(size + " bytes in " + which, x, number(size % 2));
            }
            tape(x, join(bytes(ONE), filled(80, NOT)));
            due("script(" + which + ") of 81", x.script(which), REFUSED);
            left("the 80 bytes stay in " + which, x, number(0));
        }
    }

    private static void messageIsZerosAtFirst() {
        about("THE MESSAGE is 32 bytes, zeros at first");
        ScriptStack x = new ScriptStack();
        x.sign();
        outHas("for the first MESSAGE", x, signature(bytes(), new byte[32]));
        left("SIGNED", loaded(push(signature(bytes(3), new byte[32])), bytes(1, 3, SIGNED)), number(1));
        left("of 31 zeros", loaded(push(signature(bytes(3), new byte[31])), bytes(1, 3, SIGNED)), number(0));
        left("of 33 zeros", loaded(push(signature(bytes(3), new byte[33])), bytes(1, 3, SIGNED)), number(0));
        left("not the HASH of nothing", loaded(push(signature(bytes(3), hash(bytes()))), bytes(1, 3, SIGNED)), number(0));
    }

    private static void messageIs32Bytes() {
        about("THE MESSAGE is 32 bytes");
        for (int size : new int[] {0, 1, 31, 32, 33}) {
            ScriptStack x = withTapeOf(size);
            x.message();
            tape(x, bytes(3));
            x.sign();
            outHas("the HASH of " + size, x, signature(bytes(3), hash(rising(size))));
        }
    }

    private static void signatureIsFirst8Bytes() {
        about("SIGNATURE of a KEY: the first 8 bytes of the HASH of the KEY and, behind it, the MESSAGE");
        byte[] key = rising(5);
        byte[] whole = hash(join(key, new byte[32]));
        byte[] code = join(push(key), bytes(SIGNED));
        for (int size : new int[] {0, 1, 7, 8, 9, 16, 32}) {
            left(size + " bytes", loaded(push(Arrays.copyOf(whole, size)), code), number(size == 8 ? 1 : 0));
        }
        left("the last 8", loaded(push(Arrays.copyOfRange(whole, 24, 32)), code), number(0));
        left("the KEY behind", loaded(push(Arrays.copyOf(hash(join(new byte[32], key)), 8)), code), number(0));
        left("SHA-256 once", loaded(push(Arrays.copyOf(sha256(join(key, new byte[32])), 8)), code), number(0));
    }

    // ---- TO RUN

    private static void script0ThenScript1() {
        about("TO RUN them: SCRIPT 0, then SCRIPT 1, on one STACK");
        left("in this order", loaded(bytes(1, 5), bytes(1, 6)), bytes(5), bytes(6));
        left("on one STACK", loaded(bytes(1, 5, 1, 6), bytes(SWAP)), bytes(6), bytes(5));
        fails("SCRIPT 1 is not first", loaded(bytes(SWAP), bytes(1, 5, 1, 6)));
        fails("a push does not reach into SCRIPT 1", loaded(bytes(ONE, 1), bytes(1, 1)));
    }

    /** What brings one ELEMENT more, whatever stands on the STACK, if two do. */
    private static final int[] GROWING = {0, DUP, OVER, SIZE, ONE};

    private static void stackHasAtMost24() {
        about("on one STACK of at most 24 ELEMENTS; too many fail");
        for (int code : GROWING) {
            left("code " + code + " on 22", join(filled(22, 0), bytes(code, DROP)), rows(22, bytes()));
            doesNotFail("code " + code + " on 22", loaded(filled(22, 0), bytes(code)));
            doesNotFail("code " + code + " on 23", loaded(filled(23, 0), bytes(code)));
            fails("code " + code + " on 24", loaded(filled(24, 0), bytes(code)));
            fails("code " + code + " on 24, then DROP", loaded(filled(24, 0), bytes(code, DROP)));
        }
        left("23", filled(23, ONE), rows(23, number(1)));
        left("24", filled(24, ONE), rows(24, number(1)));
        fails("25", filled(25, ONE));
        fails("80", filled(80, ONE));
        left("24 in two scripts", loaded(filled(12, ONE), filled(12, 0)), rows24());
        fails("25 in two scripts", loaded(filled(12, ONE), filled(13, 0)));
        left("25 one after another", loaded(filled(24, 0), bytes(DROP, ONE)), rows(23, bytes(), number(1)));
        left("a push of 75 as the 24th", loaded(filled(23, 0), push(rising(75))), rows(23, bytes(), rising(75)));
        fails("a push of 75 as the 25th", loaded(filled(24, 0), push(rising(75))));
    }

    private static byte[][] rows24() {
        byte[][] all = rows(24, bytes());
        Arrays.fill(all, 0, 12, number(1));
        return all;
    }

    private static void stackThatIsFull() {
        about("at most 24 ELEMENTS: what brings no ELEMENT more is done on 24");
        byte[] full = filled(24, 0);
        left("DROP", loaded(full, bytes(DROP)), rows(23, bytes()));
        left("SWAP", loaded(join(filled(23, 0), bytes(ONE)), bytes(SWAP)), rows(22, bytes(), number(1), bytes()));
        left("EQUAL", loaded(full, bytes(EQUAL)), rows(22, bytes(), number(1)));
        left("VERIFY", loaded(filled(24, ONE), bytes(VERIFY)), rows(23, number(1)));
        left("NOT", loaded(full, bytes(NOT)), rows(23, bytes(), number(1)));
        left("ADD", loaded(filled(24, ONE), bytes(ADD)), rows(22, number(1), number(2)));
        left("SUB", loaded(filled(24, ONE), bytes(SUB)), rows(22, number(1), bytes()));
        left("LESS", loaded(full, bytes(LESS)), rows(23, bytes()));
        left("AND", loaded(full, bytes(AND)), rows(23, bytes()));
        left("SHA", loaded(full, bytes(SHA)), rows(23, bytes(), sha256(bytes())));
        left("HASH", loaded(full, bytes(HASH)), rows(23, bytes(), hash(bytes())));
        left("SIGNED", loaded(full, bytes(SIGNED)), rows(23, bytes()));
        left("AFTER", loaded(full, bytes(AFTER)), rows(23, bytes()));
        left("IF", loaded(full, bytes(IF, END)), rows(23, bytes()));
        left("UNLESS", loaded(full, bytes(UNLESS, ONE, END)), rows(23, bytes(), number(1)));
        left("MANY", loaded(full, bytes(MANY)), rows(22, bytes(), number(1)));
        left("what is passed over", loaded(full, bytes(IF, ONE, 0, DUP, ELSE, ONE, END)), rows(23, bytes(), number(1)));
    }

    // no BYTE of a script makes an ELEMENT of more than 75 bytes, so 80 can't be gone beyond
    private static void elementsHaveAtMost80() {
        about("ELEMENTS of at most 80 bytes");
        byte[] longest = rising(75);
        byte[] other = filled(75, 200);
        left("74", push(rising(74)), rising(74));
        left("75", push(longest), longest);
        left("75 and DUP", join(push(longest), bytes(DUP)), longest, longest);
        left("75 and OVER", loaded(push(longest), bytes(2, 8, 9, OVER)), longest, bytes(8, 9), longest);
        left("two of 75 and SWAP", loaded(push(longest), join(push(other), bytes(SWAP))), other, longest);
        left("two of 75 and EQUAL", loaded(push(longest), join(push(longest), bytes(EQUAL))), number(1));
        byte[] almost = longest.clone();
        almost[74] ^= 1;
        left("two of 75 that differ last", loaded(push(longest), join(push(almost), bytes(EQUAL))), number(0));
        left("between others", loaded(bytes(1, 5, 1, 6), join(bytes(SWAP), push(longest), bytes(ONE))),
            bytes(6), bytes(5), longest, number(1));
    }

    private static void stackHasNoneAtFirst() {
        about("ELEMENTS, none at first");
        ScriptStack x = loaded(bytes(), bytes(1, 5));
        left("a first run", x, bytes(5));
        left("a second run", x, bytes(5));
        load(x, 1, bytes());
        left("a run of nothing", x);
        load(x, 1, bytes(DROP, ONE));
        fails("nothing of the run before can go", x);
        load(x, 1, join(filled(24, 0), bytes(101)));
        fails("a run that fails", x);
        load(x, 1, filled(24, ONE));
        left("a run behind it", x, rows(24, number(1)));
        left("and again", x, rows(24, number(1)));
    }

    private static void succeedIfNothingFails() {
        about("they succeed if nothing fails");
        left("nothing fails", loaded(bytes(ONE), bytes(ONE)), number(1), number(1));
        fails("the first BYTE of SCRIPT 0", loaded(bytes(101, ONE), bytes(ONE)));
        fails("the last BYTE of SCRIPT 0", loaded(bytes(ONE, 101), bytes(ONE)));
        fails("the first BYTE of SCRIPT 1", loaded(bytes(ONE), bytes(101, ONE)));
        fails("the last BYTE of SCRIPT 1", loaded(bytes(ONE), bytes(ONE, 101)));
        fails("BYTE 80 of a script", loaded(bytes(ONE), join(bytes(74), filled(74, 1), filled(4, ONE), bytes(101))));
        ScriptStack x = loaded(bytes(ONE), bytes(101));
        fails("a run that fails", x);
        load(x, 1, bytes());
        left("the next one does not", x, number(1));
    }

    private static void eachHasItsEnds() {
        about("they succeed if each has its ENDs");
        byte[] fine = bytes(ONE);
        for (int code : new int[] {IF, UNLESS}) {
            for (int condition : new int[] {ONE, 0}) {
                byte[] open = bytes(ONE, condition, code);
                left(code + " in SCRIPT 0", loaded(join(open, bytes(END)), bytes()), number(1));
                left(code + " in SCRIPT 1", loaded(bytes(), join(open, bytes(END))), number(1));
                fails(code + " in SCRIPT 0, none", loaded(open, fine));
                fails(code + " in SCRIPT 1, none", loaded(fine, open));
                fails(code + " in SCRIPT 0, its END in SCRIPT 1", loaded(open, join(bytes(END), fine)));
                fails(code + " in SCRIPT 0, ELSE and none", loaded(join(open, bytes(ELSE)), fine));
                fails(code + " in each, none", loaded(open, open));
            }
        }
        left("two have two", bytes(1, 5, ONE, ONE, IF, IF, END, END), bytes(5));
        fails("two have one", bytes(1, 5, ONE, ONE, IF, IF, END));
        fails("one has two", bytes(1, 5, ONE, ONE, IF, END, END));
        left("one behind another", bytes(1, 5, ONE, IF, END, ONE, IF, END), bytes(5));
        left("39 and 39 are passed over", join(bytes(ONE, 0), filled(39, IF), filled(39, END)), number(1));
        fails("39 and 38", join(bytes(ONE, 0), filled(39, IF), filled(38, END)));
        fails("38 and 39", join(bytes(ONE, 0), filled(38, IF), filled(39, END)));
        left("23 and 23 are done", loaded(filled(24, ONE), join(filled(23, IF), filled(23, END))), number(1));
        fails("79 and none", join(bytes(0), filled(79, IF)));
        ScriptStack x = loaded(bytes(), bytes(0, IF));
        fails("a run that lacks one", x);
        load(x, 1, bytes(ONE));
        left("does not shut the next one", x, number(1));
    }

    private static void lastElementThereMustBe() {
        about("the last ELEMENT, which there must be");
        left("no scripts", new ScriptStack());
        left("one that went again", bytes(ONE, DROP));
        left("one", bytes(ONE), number(1));
        left("SCRIPT 1 took it", loaded(bytes(ONE), bytes(VERIFY)));
        ScriptStack x = loaded(bytes(ONE), bytes());
        due("one is there", x.run(0), true);
        load(x, 0, bytes());
        due("one of the run before is not", x.run(0), false);
    }

    private static void lastElementIsTrue() {
        about("the last ELEMENT is true (has a byte that is not 0)");
        left("no bytes", bytes(0), bytes());
        for (int size : new int[] {1, 2, 4, 5, 74, 75}) {
            left(size + " zeros", push(new byte[size]), new byte[size]);
            for (int place : new int[] {0, size / 2, size - 1}) {
                for (int value : new int[] {1, 128, 255}) {
                    byte[] element = new byte[size];
                    element[place] = (byte) value;
                    left(size + " bytes, " + value + " at " + place, push(element), element);
                }
            }
        }
        left("the last one false, the first true", bytes(ONE, 0), number(1), bytes());
        left("the last one true, the first false", bytes(0, ONE), bytes(), number(1));
        left("zeros where a longer one stood", bytes(3, 0, 0, 9, DROP, 2, 0, 0), bytes(0, 0));
        left("zeros before a true one that went", bytes(1, 0, 1, 9, DROP), bytes(0));
    }

    // ---- numbers

    /** Elements of 0 to 4 bytes, and the number that each is. */
    private static final int[][] NUMBERS = {
        {0}, {0, 0}, {0, 0, 0}, {0, 0, 0, 0}, {0, 0, 0, 0, 0},
        {1, 1}, {1, 0, 1}, {1, 0, 0, 1}, {1, 0, 0, 0, 1},
        {-1, 255}, {-1, 255, 255}, {-1, 255, 255, 255}, {-1, 255, 255, 255, 255},
        {127, 127}, {-128, 128}, {-127, 129}, {128, 0, 128}, {255, 0, 255}, {256, 1, 0}, {-256, 255, 0},
        {32767, 127, 255}, {-32768, 128, 0}, {32768, 0, 128, 0}, {65535, 0, 255, 255},
        {65536, 1, 0, 0}, {0x7fffff, 127, 255, 255}, {-0x800000, 128, 0, 0}, {0x800000, 0, 128, 0, 0},
        {0xffffff, 0, 255, 255, 255}, {0x1000000, 1, 0, 0, 0}, {0x01020304, 1, 2, 3, 4}, {0x010203, 1, 2, 3},
        {MAX, 127, 255, 255, 255}, {MIN, 128, 0, 0, 0}, {MIN + 1, 128, 0, 0, 1}, {-2, 254}, {-2, 255, 255, 255, 254}
    };

    private static byte[] elementOf(int[] row) {
        return bytes(Arrays.copyOfRange(row, 1, row.length));
    }

    private static void numbersHave0To4Bytes() {
        about("As a number an ELEMENT has 0 to 4 bytes, the highest first");
        for (int[] row : NUMBERS) {
            byte[] pushed = push(elementOf(row));
            String what = Arrays.toString(elementOf(row));
            left(what + " as a", join(pushed, bytes(0, ADD)), number(row[0]));
            left(what + " as b", join(bytes(0), pushed, bytes(ADD)), number(row[0]));
            left(what + " less 0", join(pushed, bytes(0, SUB)), number(row[0]));
            left(what + " is below it and 1", join(pushed, pushed, bytes(ONE, ADD, LESS)), number(row[0] == MAX ? 0 : 1));
            left(what + " NOT", join(pushed, bytes(NOT)), number(row[0] == 0 ? 1 : 0));
            ScriptStack x = loaded(bytes(ONE), join(pushed, bytes(AFTER)));
            due(what + " AFTER, height at it", x.run(row[0]), true);
            due(what + " AFTER, height below it", row[0] != MIN && x.run(row[0] - 1), false);
            byte[] longer = bytes(6, 7, 7, 7, 7, 7, 7, DROP);
            left(what + " where a longer one stood", join(longer, pushed, bytes(0, ADD)), number(row[0]));
        }
    }

    private static void numbersOfMoreFail() {
        about("As a number an ELEMENT has 0 to 4 bytes; more fail");
        for (int size = 0; size <= 75; size += size < 6 ? 1 : 23) {
            byte[] zeros = push(new byte[size]);
            numberOf(size, "NOT", zeros, bytes(NOT));
            numberOf(size, "AFTER", zeros, bytes(AFTER));
            for (int code : new int[] {ADD, SUB, LESS}) {
                numberOf(size, code + " as a", zeros, bytes(0, code));
                numberOf(size, code + " as b", join(bytes(0), zeros), bytes(code));
            }
            numberOf(size, "MANY as n", join(bytes(0), zeros), bytes(MANY));
            numberOf(size, "MANY as m", zeros, bytes(0, MANY));
        }
    }

    private static void numberOf(int size, String what, byte[] first, byte[] second) {
        if (size <= 4) {
            doesNotFail(what + " of " + size, loaded(first, second));
        } else {
            fails(what + " of " + size, loaded(first, second));
        }
    }

    private static void numbersHaveASign() {
        about("with a sign (one byte 255 is -1)");
        left("255", bytes(1, 255, 0, ADD), number(-1));
        left("254", bytes(1, 254, 0, ADD), number(-2));
        left("128", bytes(1, 128, 0, ADD), number(-128));
        left("127", bytes(1, 127, 0, ADD), number(127));
        left("0 and 255", bytes(2, 0, 255, 0, ADD), number(255));
        left("255 is below 0", bytes(1, 255, 0, LESS), number(1));
        left("127 is not below 0", bytes(1, 127, 0, LESS), number(0));
        left("128 is below 0", bytes(1, 128, 0, LESS), number(1));
    }

    private static void numbersAreWritten() {
        about("Numbers are written as 4 bytes, 0 without any");
        left("-1", bytes(0, ONE, SUB), bytes(255, 255, 255, 255));
        left("0", bytes(ONE, ONE, SUB), bytes());
        left("1", bytes(ONE), bytes(0, 0, 0, 1));
        left("256", bytes(2, 0, 255, ONE, ADD), bytes(0, 0, 1, 0));
        left("2^24", bytes(4, 0, 255, 255, 255, ONE, ADD), bytes(1, 0, 0, 0));
        left("SIZE of 1, of 0", bytes(1, 9, SIZE, DROP, DROP, 0, SIZE), bytes(), bytes());
        left("SIZE of 1", bytes(1, 9, SIZE), bytes(9), bytes(0, 0, 0, 1));
        left("EQUAL 1", bytes(0, 0, EQUAL), bytes(0, 0, 0, 1));
        left("EQUAL 0", bytes(0, ONE, EQUAL), bytes());
        left("NOT 1", bytes(0, NOT), bytes(0, 0, 0, 1));
        left("NOT 0", bytes(ONE, NOT), bytes());
        left("LESS 1", bytes(0, ONE, LESS), bytes(0, 0, 0, 1));
        left("LESS 0", bytes(ONE, 0, LESS), bytes());
        left("AND 1", bytes(ONE, 1, 7, AND), bytes(0, 0, 0, 1));
        left("AND 0", bytes(ONE, 0, AND), bytes());
        left("SIGNED 1", join(push(signature(bytes())), bytes(0, SIGNED)), bytes(0, 0, 0, 1));
        left("SIGNED 0", bytes(0, 0, SIGNED), bytes());
        left("MANY 1", bytes(0, 0, MANY), bytes(0, 0, 0, 1));
        left("MANY 0", bytes(0, ONE, 0, ONE, MANY), bytes());
    }

    private static void tooFewElements() {
        about("Too few ELEMENTS fail");
        int[] ofOne = {DUP, DROP, SIZE, VERIFY, NOT, SHA, HASH, AFTER};
        int[] ofTwo = {SWAP, OVER, EQUAL, ADD, SUB, LESS, AND, SIGNED};
        for (int code : ofOne) {
            needs(1, "code " + code, code == AFTER ? 0 : ONE, bytes(code));
        }
        for (int code : ofTwo) {
            needs(2, "code " + code, ONE, bytes(code));
        }
        needs(1, "IF", ONE, bytes(IF, END));
        needs(1, "UNLESS", ONE, bytes(UNLESS, END));
        needs(2, "MANY of none", 0, bytes(MANY));
        needs(2, "MANY, n is 1", ONE, bytes(0, ONE, MANY));
        needs(0, "ONE", ONE, bytes(ONE));
        needs(0, "a push", ONE, bytes(1, 7));
        needs(0, "END of one that is not done", ONE, bytes(0, IF, IF, ADD, END, END));
    }

    // what lacks must not be made up by an ELEMENT that stood there before, nor by SCRIPT 1's own
    private static void needs(int least, String what, int operand, byte[] code) {
        for (int have = 0; have < least; have++) {
            fails(what + " of " + have, loaded(filled(have, operand), join(code, bytes(ONE))));
            fails(what + " of " + have + ", one went", loaded(filled(have + 1, operand), join(bytes(DROP), code)));
        }
        for (int have = least; have < least + 2; have++) {
            doesNotFail(what + " of " + have, loaded(filled(have, operand), code));
        }
    }

    // ---- the BYTES of a script

    private static void pushesOfSoManyBytes() {
        about("0 to 75: an ELEMENT of so many bytes that follow");
        for (int size = 0; size <= 75; size++) {
            byte[] element = rising(size);
            left("push of " + size, push(element), element);
            left("what stands behind " + size + " is done", join(push(element), bytes(1, 9)), element, bytes(9));
        }
        fails("76", join(bytes(ONE, 76), filled(76, ONE)));
        fails("76 alone", bytes(ONE, 76));
        left("BYTES in it are not done", bytes(4, 101, 97, 200, 100), bytes(101, 97, 200, 100));
    }

    private static void pushesThatLack() {
        about("0 to 75: (fails if there are less)");
        for (int size = 1; size <= 75; size++) {
            fails(size + " with none", bytes(ONE, size));
            fails(size + " with one less", join(bytes(ONE, size), filled(size - 1, 1)));
            left(size + " with all", join(bytes(size), filled(size, 1)), filled(size, 1));
        }
        left("a script of 80 that ends with its push", join(bytes(0, 0, 0, 0), push(rising(75))),
            bytes(), bytes(), bytes(), bytes(), rising(75));
        fails("a script of 80 that lacks one", join(bytes(0, 0, 0, 0, 0, 75), filled(74, 1)));
        ScriptStack x = loaded(bytes(), join(bytes(75), filled(75, ONE)));
        load(x, 1, bytes(ONE, 2, 1));
        fails("bytes of an older, longer script do not count", x);
        fails("bytes of SCRIPT 1 do not count for SCRIPT 0", loaded(bytes(ONE, 2, 1), bytes(1, 1)));
    }

    private static void dupDropSwapOver() {
        about("80 DUP (the last one again). 81 DROP. 82 SWAP (the last two). 83 OVER (the last but one again)");
        byte[] a = bytes(1, 2, 3);
        byte[] b = bytes();
        byte[] c = bytes(4, 5);
        byte[] three = join(push(a), push(b), push(c));
        left("DUP", join(three, bytes(DUP)), a, b, c, c);
        left("DUP of an empty one", join(three, bytes(DROP, DUP)), a, b, b);
        left("DROP", join(three, bytes(DROP)), a, b);
        left("DROP of all", join(three, bytes(DROP, DROP, DROP)));
        fails("DROP of one more", join(three, bytes(DROP, DROP, DROP, DROP)));
        left("SWAP", join(three, bytes(SWAP)), a, c, b);
        left("SWAP twice", join(three, bytes(SWAP, SWAP)), a, b, c);
        left("OVER", join(three, bytes(OVER)), a, b, c, b);
        left("OVER on two", join(push(a), push(c), bytes(OVER)), a, c, a);
    }

    private static void sizeOfTheLast() {
        about("85 SIZE (a number: how many bytes the last one has, which stays)");
        for (int size : new int[] {0, 1, 2, 74, 75}) {
            left("SIZE of " + size, join(bytes(2, 8, 8), push(rising(size)), bytes(SIZE)),
                bytes(8, 8), rising(size), number(size));
        }
        left("SIZE of a number", bytes(ONE, SIZE), number(1), number(4));
        left("SIZE of a number 0", bytes(ONE, NOT, SIZE), bytes(), bytes());
    }

    private static void equalTwoGo() {
        about("86 EQUAL (two go; 1 or 0)");
        left("empty ones", bytes(1, 9, 0, 0, EQUAL), bytes(9), number(1));
        left("an empty one and a zero", bytes(0, 1, 0, EQUAL), number(0));
        left("a zero and an empty one", bytes(1, 0, 0, EQUAL), number(0));
        left("one byte less", bytes(2, 7, 8, 1, 7, EQUAL), number(0));
        left("one byte more", bytes(1, 7, 2, 7, 8, EQUAL), number(0));
        left("the first byte", bytes(2, 7, 8, 2, 6, 8, EQUAL), number(0));
        left("the last byte", bytes(2, 7, 8, 2, 7, 9, EQUAL), number(0));
        left("alike", bytes(2, 7, 8, 2, 7, 8, EQUAL), number(1));
        left("alike as numbers alone", bytes(1, 1, ONE, EQUAL), number(0));
        left("what stood behind a shorter one", bytes(2, 7, 8, DROP, 1, 7, 2, 7, 8, EQUAL), number(0));
    }

    private static void verifyNotTrue() {
        about("87 VERIFY (one goes; fails if it is not true)");
        left("one byte 1", bytes(1, 9, 1, 1, VERIFY), bytes(9));
        left("one byte 128", bytes(1, 9, 1, 128, VERIFY), bytes(9));
        left("75 bytes, the last alone", join(bytes(1, 9, 75), new byte[74], bytes(1, VERIFY)), bytes(9));
        fails("no bytes", bytes(ONE, 0, VERIFY));
        fails("one zero", bytes(ONE, 1, 0, VERIFY));
        fails("75 zeros", join(bytes(ONE, 75), new byte[75], bytes(VERIFY)));
    }

    private static void notOfANumber() {
        about("88 NOT (a number: 1 for 0, else 0)");
        left("-1", bytes(1, 9, 1, 255, NOT), bytes(9), number(0));
        left("0", bytes(1, 9, 0, NOT), bytes(9), number(1));
        left("0 of 4 bytes", bytes(1, 9, 4, 0, 0, 0, 0, NOT), bytes(9), number(1));
        left("1", bytes(1, 9, 1, 1, NOT), bytes(9), number(0));
        left("2", bytes(1, 9, 1, 2, NOT), bytes(9), number(0));
        left("MIN", bytes(1, 9, 4, 128, 0, 0, 0, NOT), bytes(9), number(0));
        left("256", bytes(1, 9, 2, 1, 0, NOT), bytes(9), number(0));
    }

    private static void reckons(int code, int a, int b, int want) {
        left(a + ", " + b + ", code " + code, join(bytes(1, 9), push(number(a)), push(number(b)), bytes(code)),
            bytes(9), number(want));
    }

    private static void addAndSubWrap() {
        about("89 ADD, 90 SUB (numbers a, then b: a + b, a - b; wrapping)");
        reckons(ADD, MAX - 1, 1, MAX);
        reckons(ADD, MAX, 0, MAX);
        reckons(ADD, MAX, 1, MIN);
        reckons(ADD, MAX, MAX, -2);
        reckons(ADD, MIN, 0, MIN);
        reckons(ADD, MIN, -1, MAX);
        reckons(ADD, MIN, MIN, 0);
        reckons(ADD, MIN, MAX, -1);
        reckons(ADD, -1, 1, 0);
        reckons(SUB, MIN + 1, 1, MIN);
        reckons(SUB, MIN, 1, MAX);
        reckons(SUB, MAX, -1, MIN);
        reckons(SUB, 0, MIN, MIN);
        reckons(SUB, MIN, MIN, 0);
        reckons(SUB, MIN, MAX, 1);
        reckons(SUB, MAX, MIN, -1);
        reckons(SUB, 0, 1, -1);
        reckons(SUB, 5, 3, 2);
    }

    private static void lessDoesNotWrap() {
        about("91 LESS (numbers a, then b: 1 if a is less, else 0)");
        reckons(LESS, 4, 5, 1);
        reckons(LESS, 5, 5, 0);
        reckons(LESS, 6, 5, 0);
        reckons(LESS, -1, 0, 1);
        reckons(LESS, 0, -1, 0);
        reckons(LESS, MIN, MAX, 1);
        reckons(LESS, MAX, MIN, 0);
        reckons(LESS, MIN, MIN + 1, 1);
        reckons(LESS, MIN, MIN, 0);
        reckons(LESS, MAX - 1, MAX, 1);
        reckons(LESS, MAX, MAX, 0);
        left("as numbers, not as bytes", bytes(1, 2, 2, 1, 0, LESS), number(1));
    }

    private static void andOfBoth() {
        about("92 AND (two go: 1 if both are true, else 0)");
        left("both", bytes(1, 9, ONE, ONE, AND), bytes(9), number(1));
        left("the first alone", bytes(1, 9, ONE, 0, AND), bytes(9), number(0));
        left("the last alone", bytes(1, 9, 0, ONE, AND), bytes(9), number(0));
        left("neither", bytes(1, 9, 0, 0, AND), bytes(9), number(0));
        left("zeros are not true", bytes(1, 9, ONE, 2, 0, 0, AND), bytes(9), number(0));
        left("bits that do not meet", bytes(1, 9, 1, 1, 1, 2, AND), bytes(9), number(1));
        left("they need be no numbers", bytes(5, 0, 0, 0, 0, 1, 6, 1, 0, 0, 0, 0, 0, AND), number(1));
    }

    private static void shaAndHashOfElements() {
        about("93 SHA (its SHA-256). 94 HASH");
        for (int size = 0; size <= 75; size++) {
            byte[] element = rising(size);
            left("SHA of " + size, join(bytes(1, 9), push(element), bytes(SHA)), bytes(9), sha256(element));
            left("HASH of " + size, join(bytes(1, 9), push(element), bytes(HASH)), bytes(9), hash(element));
        }
    }

    private static void signedOrNot() {
        about("95 SIGNED (a SIGNATURE, then a KEY go: 1 if it is that of the KEY for the MESSAGE, else 0)");
        for (int size : new int[] {0, 1, 23, 24, 31, 32, 74, 75}) {
            byte[] key = rising(size);
            byte[] code = join(push(key), bytes(SIGNED));
            left("a KEY of " + size, loaded(join(bytes(1, 9), push(signature(key))), code), bytes(9), number(1));
            left("a KEY of one less", loaded(push(signature(rising(size + 1))), code), number(0));
        }
        byte[] good = signature(bytes(7));
        for (int i = 0; i < 8; i++) {
            byte[] bad = good.clone();
            bad[i] ^= (byte) 128;
            left("byte " + i + " changed", loaded(push(bad), bytes(1, 7, SIGNED)), number(0));
        }
        left("a KEY, then a SIGNATURE", loaded(bytes(1, 7), join(push(good), bytes(SIGNED))), number(0));
        ScriptStack x = loaded(push(good), bytes(1, 7, SIGNED));
        left("for the first MESSAGE", x, number(1));
        x.message();
        left("not for the next one", x, number(0));
    }

    private static void afterBelow() {
        about("96 AFTER (a number goes; fails if the HEIGHT is below it)");
        for (int n : new int[] {MIN, MIN + 1, -2, -1, 0, 1, 2, 1000, MAX - 1, MAX}) {
            ScriptStack x = loaded(bytes(1, 9), join(push(number(n)), bytes(AFTER)));
            if (n != MIN) {
                due("HEIGHT " + (n - 1) + ", number " + n, x.run(n - 1), false);
                due("depth", x.depth(), NONE);
                due("HEIGHT MIN, number " + n, x.run(MIN), false);
            }
            if (n != MAX) {
                due("HEIGHT " + (n + 1) + ", number " + n, x.run(n + 1), true);
            }
            due("HEIGHT MAX, number " + n, x.run(MAX), true);
            due("HEIGHT " + n + ", number " + n, x.run(n), true);
            due("it goes", x.depth(), 1);
            due("what is below stays", x.element(0, 0), 9);
        }
        ScriptStack first = loaded(bytes(ONE, 1, 9, AFTER), bytes());
        due("in SCRIPT 0, below", first.run(8), false);
        due("in SCRIPT 0, at", first.run(9), true);
    }

    private static void ifAndUnless() {
        about("97 IF, 98 UNLESS (one goes: what follows is done if it is true, or not), 99 ELSE, 100 END");
        int[][] conditions = {{0}, {1, 0}, {2, 0, 0}, {5, 0, 0, 0, 0, 0}, {1, 1}, {1, 128}, {2, 0, 1}, {6, 0, 0, 0, 0, 0, 1}};
        for (int[] condition : conditions) {
            byte[] pushed = bytes(condition);
            boolean truth = truth(Arrays.copyOfRange(pushed, 1, pushed.length));
            byte[] rest = bytes(1, 5, ELSE, 1, 6, END, 1, 7);
            String what = " of " + Arrays.toString(pushed);
            left("IF" + what, join(bytes(1, 9), pushed, bytes(IF), rest), bytes(9), bytes(truth ? 5 : 6), bytes(7));
            left("UNLESS" + what, join(bytes(1, 9), pushed, bytes(UNLESS), rest), bytes(9), bytes(truth ? 6 : 5), bytes(7));
        }
        left("nothing follows", bytes(1, 9, ONE, IF, END), bytes(9));
        left("no ELSE, not done", bytes(1, 9, 0, IF, 1, 5, END), bytes(9));
        left("no ELSE, done", bytes(1, 9, 0, UNLESS, 1, 5, END), bytes(9), bytes(5));
    }

    private static void oneOfOneFails() {
        about("101 fails");
        left("100", bytes(ONE, 0, IF, 100), number(1));
        fails("101", bytes(ONE, 0, 101));
        fails("101 on nothing", bytes(101));
        left("102", bytes(102), number(1));
        left("101, not done", bytes(ONE, 0, IF, 101, END), number(1));
    }

    private static void oneIsANumber() {
        about("102 ONE (the number 1)");
        left("ONE", bytes(102), bytes(0, 0, 0, 1));
        left("ONE is not one byte", bytes(102, 1, 1, EQUAL), number(0));
        left("ONE is 1", bytes(102, 1, 1, SUB), number(0));
    }

    // ---- 103 MANY

    /** n KEYS and m SIGNATURES, all empty, which stand on the STACK if the numbers do not lie. */
    private static ScriptStack emptyMany(int n, int m, int saidN, int saidM) {
        return loaded(filled(m, 0), join(push(number(saidM)), filled(n, 0), push(number(saidN)), bytes(MANY)));
    }

    private static void manyNumberOfKeys() {
        about("103 MANY (a number n, 0 to 8, behind n KEYS; other n fail)");
        for (int n = 0; n <= 8; n++) {
            left("n is " + n, emptyMany(n, 0, n, 0), number(1));
            left("n is " + n + ", one more is below", loaded(bytes(1, 7), join(bytes(0), filled(n, 0), bytes(1, n, MANY))),
                bytes(7), number(1));
        }
        for (int n = 1; n <= 8; n++) {
            fails("n is " + n + ", a KEY lacks", emptyMany(n - 1, 0, n, 0));
        }
        fails("n is 9", emptyMany(9, 0, 9, 0));
        fails("n is 10", emptyMany(10, 0, 10, 0));
        fails("n is 22", emptyMany(22, 0, 22, 0));
        fails("n is -1", emptyMany(2, 0, -1, 0));
        fails("n is MIN", emptyMany(2, 0, MIN, 0));
        fails("n is MAX", emptyMany(2, 0, MAX, 0));
        fails("n is 256", emptyMany(2, 0, 256, 0));
        fails("n is 2^24", emptyMany(2, 0, 0x1000000, 0));
        left("n of 4 bytes", bytes(0, 0, 4, 0, 0, 0, 1, MANY), number(1));
        fails("n of 5 bytes", bytes(0, 0, 5, 0, 0, 0, 0, 1, MANY));
    }

    private static void manyNumberOfSignatures() {
        about("103 MANY (a number m, 0 to n, behind m SIGNATURES; other m fail)");
        for (int n = 0; n <= 8; n++) {
            for (int m = 0; m <= n; m++) {
                left(m + " of " + n, emptyMany(n, m, n, m), number(m == 0 ? 1 : 0));
            }
            fails(n + 1 + " of " + n, emptyMany(n, n + 1, n, n + 1));
            fails("-1 of " + n, emptyMany(n, 2, n, -1));
            fails("MIN of " + n, emptyMany(n, 2, n, MIN));
            fails("MAX of " + n, emptyMany(n, 2, n, MAX));
            fails("256 of " + n, emptyMany(n, 2, n, 256));
        }
        for (int m = 1; m <= 8; m++) {
            fails(m + " of 8, a SIGNATURE lacks", emptyMany(8, m - 1, 8, m));
        }
        left("m of 4 bytes", bytes(4, 0, 0, 0, 0, 0, MANY), number(1));
        fails("m of 5 bytes", bytes(5, 0, 0, 0, 0, 0, 0, MANY));
        fails("m lacks", bytes(0, MANY));
        fails("m lacks behind a KEY", bytes(1, 7, ONE, MANY));
    }

    private static void manyLaterOnesLaterKeys() {
        about("103 MANY (1 if each SIGNATURE is that of a KEY, of later ones later KEYS, else 0)");
        for (int key = 0; key < 8; key++) {
            left("1 of 8, KEY " + key, many(8, key), number(1));
        }
        left("1 of 8, a KEY that is none of them", many(8, 8), number(0));
        left("8 of 8", many(8, 0, 1, 2, 3, 4, 5, 6, 7), number(1));
        left("8 of 8, the first two changed", many(8, 1, 0, 2, 3, 4, 5, 6, 7), number(0));
        left("8 of 8, the last two changed", many(8, 0, 1, 2, 3, 4, 5, 7, 6), number(0));
        left("8 of 8, the last wrong", many(8, 0, 1, 2, 3, 4, 5, 6, 8), number(0));
        left("7 of 8, without the first", many(8, 1, 2, 3, 4, 5, 6, 7), number(1));
        left("7 of 8, without the last", many(8, 0, 1, 2, 3, 4, 5, 6), number(1));
        left("2 of 2", many(2, 0, 1), number(1));
        left("2 of 2, changed", many(2, 1, 0), number(0));
        left("the same KEY for two", many(2, 0, 0), number(0));
        left("the same last KEY for two", many(2, 1, 1), number(0));
        byte[] twice = push(signature(bytes(4)));
        left("a KEY that stands twice, for two", loaded(join(twice, twice), bytes(1, 2, 1, 4, 1, 4, 1, 2, MANY)), number(1));
        left("and not for three", loaded(join(twice, twice, twice), bytes(1, 3, 1, 4, 1, 5, 1, 4, 1, 3, MANY)), number(0));
        for (int size : new int[] {7, 8, 9}) {
            byte[] cut = push(Arrays.copyOf(hash(join(bytes(4), new byte[32])), size));
            left("a SIGNATURE of " + size, loaded(cut, bytes(ONE, 1, 4, ONE, MANY)), number(size == 8 ? 1 : 0));
        }
        left("m is no KEY", loaded(push(signature(bytes(1))), bytes(1, 1, 1, 4, 1, 1, MANY)), number(0));
        byte[] empty = push(signature(bytes()));
        left("a KEY of no bytes", loaded(empty, bytes(ONE, 0, ONE, MANY)), number(1));
        byte[] wide = push(rising(70));
        left("a KEY of 70", loaded(push(signature(rising(70))), join(bytes(ONE), wide, bytes(ONE, MANY))), number(1));
        ScriptStack x = many(2, 1);
        left("for the first MESSAGE", x, number(1));
        x.message();
        left("not for the next one", x, number(0));
    }

    private static void manyAllGo() {
        about("103 MANY (all go)");
        byte[] signed = push(signature(bytes(4)));
        left("1 of 1", loaded(join(bytes(1, 8), signed), bytes(ONE, 1, 4, ONE, MANY)), bytes(8), number(1));
        left("1 of 2", loaded(join(bytes(1, 8), signed), bytes(ONE, 1, 4, 1, 5, 1, 2, MANY)), bytes(8), number(1));
        left("1 of 1, 0", loaded(join(bytes(1, 8), signed), bytes(ONE, 1, 5, ONE, MANY)), bytes(8), number(0));
        left("0 of 0", loaded(join(bytes(1, 8), signed), bytes(0, 0, MANY)), bytes(8), signature(bytes(4)), number(1));
        left("8 of 8 on 24", loaded(filled(14, 0), join(bytes(1, 8), filled(8, 0), bytes(1, 8, MANY))),
            rows(6, bytes(), number(0)));
    }

    // ---- what fails, and what is passed over

    private static boolean isOther(int code) {
        return code >= 76 && code <= 79 || code == 84 || code >= 104;
    }

    private static void othersFail() {
        about("Others fail");
        for (int code = 76; code < 256; code++) {
            if (isOther(code)) {
                fails("code " + code, bytes(ONE, ONE, ONE, code));
                fails("code " + code + " in SCRIPT 0", loaded(bytes(ONE, ONE, ONE, code), bytes(ONE)));
                left("code " + code + ", not done", bytes(ONE, 0, IF, code, END), number(1));
            }
        }
        byte[] three = bytes(0, 0, 0);
        for (int code : new int[] {DUP, DROP, SWAP, OVER, SIZE, EQUAL, NOT, ADD, SUB, LESS, AND, SHA, HASH, SIGNED, AFTER, ONE, MANY}) {
            doesNotFail("code " + code, loaded(three, bytes(code)));
        }
        left("75 is none of them", push(rising(75)), rising(75));
    }

    private static void notDoneIsPassedOver() {
        about("What is not done is passed over, elements with their bytes");
        for (int code = 76; code < 256; code++) {
            if (code < IF || code > END) {
                left("code " + code, bytes(ONE, 0, IF, code, END), number(1));
                left("code " + code + " behind ELSE", bytes(ONE, ONE, IF, ELSE, code, END), number(1));
            }
        }
        for (int size = 0; size <= 75; size++) {
            left("an ELEMENT of " + size, join(bytes(ONE, 0, IF), push(filled(size, 101)), bytes(END)), number(1));
            if (size <= 74) {
                byte[] inside = join(bytes(ONE, 0, IF), push(filled(size, END)), bytes(END));
                left("an ELEMENT of " + size + " bytes 100", inside, number(1));
                inside = join(bytes(ONE, 0, IF), push(filled(size, ELSE)), bytes(END));
                left("an ELEMENT of " + size + " bytes 99", inside, number(1));
            }
        }
        left("done behind END", bytes(0, IF, 1, 5, END, 1, 6), bytes(6));
        left("AFTER that would fail", bytes(ONE, 0, IF, 4, 127, 255, 255, 255, AFTER, END), number(1));
        left("VERIFY that would fail", bytes(ONE, 0, IF, 0, VERIFY, END), number(1));
    }

    private static void passedOverMayNotLack() {
        about("elements with their bytes (which may not lack)");
        for (int size = 1; size <= 75; size++) {
            byte[] open = bytes(ONE, 0, IF, size);
            fails(size + " with none", open);
            fails(size + " with one less, END among them", join(open, filled(size - 1, END)));
            fails(size + " with all, and no END", join(open, filled(size, END)));
            left(size + " with all", join(open, filled(size, 1), bytes(END)), number(1));
        }
    }

    private static void passedOverBranches() {
        about("but for IF, UNLESS (no ELEMENT goes for these then), ELSE and END");
        for (int code : new int[] {IF, UNLESS}) {
            left(code + " on nothing", bytes(0, IF, code, END, END, ONE), number(1));
            left(code + " on one", bytes(1, 9, 0, IF, code, END, END), bytes(9));
            left(code + " on a false one", bytes(1, 0, 0, IF, code, END, END), bytes(0));
            left(code + " with ELSE", bytes(1, 9, 0, IF, code, 1, 5, ELSE, 1, 6, END, 1, 7, END), bytes(9));
            left(code + ", then the outer ELSE", bytes(1, 9, 0, IF, code, ELSE, END, ELSE, 1, 6, END), bytes(9), bytes(6));
            left(code + " behind ELSE", bytes(1, 9, ONE, IF, ELSE, code, 1, 5, ELSE, 1, 6, END, END), bytes(9));
            left(code + " three deep", bytes(1, 9, 0, IF, code, code, 1, 5, END, 1, 6, END, 1, 7, END, 1, 8), bytes(9), bytes(8));
            fails(code + " lacks its END", bytes(ONE, 0, IF, code, END));
            left(code + " done in one that is done", bytes(1, 9, 0, ONE, IF, code, 1, 5, END, 1, 7, END),
                code == IF ? new byte[][] {bytes(9), bytes(7)} : new byte[][] {bytes(9), bytes(5), bytes(7)});
        }
        left("an inner one shuts, the outer ELSE too", bytes(ONE, IF, 0, IF, 1, 5, END, ELSE, 1, 6, END, 1, 7), bytes(7));
        left("an inner one opens by ELSE", bytes(ONE, IF, 0, IF, ELSE, 1, 5, END, 1, 6, END), bytes(5), bytes(6));
    }

    private static void elseEachTime() {
        about("ELSE turns round what its IF or UNLESS said, each time");
        for (int code : new int[] {IF, UNLESS}) {
            for (int condition : new int[] {ONE, 0}) {
                boolean firstDone = (condition == ONE) == (code == IF);
                for (int turns = 0; turns <= 12; turns++) {
                    byte[] script = bytes(condition, code);
                    int done = firstDone ? 1 : 0;
                    script = join(script, bytes(ONE));
                    for (int i = 1; i <= turns; i++) {
                        script = join(script, bytes(ELSE, ONE));
                        done += (i % 2 == 0) == firstDone ? 1 : 0;
                    }
                    left(code + " of " + condition + " and " + turns, join(script, bytes(END)), rows(done, number(1)));
                }
            }
        }
        left("76 times", join(bytes(0, IF), filled(76, ELSE), bytes(END, ONE)), number(1));
        left("75 times", join(bytes(0, IF), filled(75, ELSE), bytes(ONE, END)), number(1));
        left("74 times", join(bytes(0, IF), filled(74, ELSE), bytes(ONE, END)));
        left("its own, not the outer one's", bytes(ONE, IF, ONE, IF, ELSE, 1, 5, END, 1, 6, END), bytes(6));
    }

    private static void elseAndEndWithoutOne() {
        about("without one ELSE and END fail");
        for (int code : new int[] {ELSE, END}) {
            fails(code + " alone", bytes(code));
            fails(code + " behind ONE", bytes(ONE, code));
            fails(code + " in SCRIPT 0", loaded(bytes(ONE, code), bytes(ONE)));
            fails(code + " behind END", bytes(ONE, ONE, IF, END, code));
            fails(code + " behind END of one not done", bytes(ONE, 0, IF, END, code));
            fails(code + " behind two", bytes(ONE, 0, IF, UNLESS, END, END, code));
            fails(code + " behind SCRIPT 0's", loaded(bytes(ONE, ONE, IF, END), bytes(code)));
            fails(code + " before one", bytes(ONE, code, ONE, IF, END));
            fails(code + " before one that lacks its END", bytes(ONE, code, ONE, IF));
        }
        left("with one", bytes(ONE, ONE, IF, ELSE, END), number(1));
        left("with two", bytes(ONE, 0, IF, UNLESS, ELSE, END, ELSE, END), number(1));
    }
}

import java.nio.charset.StandardCharsets;

/** The boundaries of the description text and of promises 1 to 5. */
final class TextEdges {
    private static final String ONE = "bureau 1 0;street s 0 0;borrower a s 5 9";

    private TextEdges() {
    }

    static void run() {
        Sentences.promise(0);
        bureau();
        lines();
        tokens();
        blanks();
        sticking();
        offsets();
        smallestKind();
        syntax();
        ranges();
        names();
        tooMany();
        refused();
        newObject();
        append();
        load();
        errorKind();
        errorOffset();
    }

    private static void bureau() {
        Sentences.say("The numbers after \"bureau\" are the grace period (1 to 24 hours) and the late fee (0 to 99).");
        Sentences.same("the least grace", 1, Check.loaded("bureau 1 0").gracePeriod());
        Sentences.same("the least fee", 0, Check.loaded("bureau 1 0").lateFee());
        Sentences.same("the greatest grace", 24, Check.loaded("bureau 24 99").gracePeriod());
        Sentences.same("the greatest fee", 99, Check.loaded("bureau 24 99").lateFee());
        Texts.bad(2, "bureau |0 0");
        Texts.bad(2, "bureau |25 0");
        Texts.bad(2, "bureau 1 |100");
    }

    private static void lines() {
        Sentences.say("Braces enclose a part that may occur any number of times");
        Sentences.same("no line", 0, Check.loaded("bureau 1 0").streetCount());
        Sentences.same("one line", 1, Check.loaded("bureau 1 0;street s 0 0").streetCount());
        StringBuilder many = new StringBuilder("bureau 1 0");
        for (int i = 0; i < 76; i++) {
            many.append(";hours 1\n");
        }
        Sentences.same("76 lines", 76, Check.loaded(many.toString()).clock());
        Texts.bad(1, "bureau 1 0;|");
        Texts.bad(1, "bureau 1 0;|;street s 0 0");
        Texts.bad(1, "bureau 1 0;street s 0 0;|");
        Sentences.say("\"street\" adds a street with its day noise and its night noise.");
        Sentences.same("the day noise comes first", 98, Check.loaded("bureau 1 0;street s 97 98").noiseAt(0, 0));
        Sentences.say("\"borrower\" adds a borrower with a street, an illness and a credit (0 to 999).");
        SilenceBureau x = Check.loaded("bureau 1 0;street s 0 0;borrower a s 0 0;borrower b s 9 999");
        Sentences.same("the least credit", 0, x.creditOf(0));
        Sentences.same("the greatest credit", 999, x.creditOf(1));
        Texts.bad(2, "bureau 1 0;street s 0 0;borrower a s 0 |1000");
        Sentences.say("\"lend\" grants a loan to a borrower with its start and its length.");
        SilenceBureau y = Check.loaded(ONE + ";lend a 2 3");
        Sentences.same("the start comes first", 2, y.startOf(0));
        Sentences.same("then the length", 3, y.lengthOf(0));
        Sentences.say("\"whistle\" returns the loan with this number, and \"hours\" lets 1 to 99 hours pass.");
        Sentences.same("one hour", 1, Check.loaded("bureau 1 0;hours 1").clock());
        Sentences.same("99 hours", 99, Check.loaded("bureau 1 0;hours 99").clock());
        Texts.bad(2, "bureau 1 0;hours |0");
        Texts.bad(2, "bureau 1 0;hours |100");
        Sentences.same("a returned loan", SilenceBureau.RETURNED,
                Check.loaded(ONE + ";lend a 0 1;hours 1;whistle 0").statusOf(0));
        Sentences.say("The lines are executed in their order.");
        Texts.bad(3, "bureau 1 0;borrower a |s 0 0;street s 0 0");
        Texts.bad(6, ONE + ";lend a 0 1;whistle |0;hours 1");
        Sentences.say("Starts are clock values, not distances from the present hour.");
        Sentences.same("the present hour", 7, Check.loaded(ONE + ";hours 7;lend a 7 1").startOf(0));
        Texts.bad(2, ONE + ";hours 7;lend a |6 1");
        Texts.bad(2, ONE + ";hours 7;permit s |0 1");
    }

    private static void tokens() {
        Sentences.say("A token is a word (a run of letters a to z), a number (a run of digits) or a semicolon");
        Texts.good("bureau 0009 0090;street az 0000 0099;street za 9 0");
        Texts.bad(1, "bureau |/ 0");
        Texts.bad(1, "bureau |: 0");
        Texts.bad(1, "bureau 1 0|:");
        Texts.bad(1, "bureau 1 0|<");
        Texts.bad(1, "bureau |+1 0");
        Sentences.say("each token is as long as possible");
        Texts.bad(1, "|bureaubureau 1 0");
        Texts.bad(1, "bureau 1 |00000");
        Texts.bad(1, "bureau 1 0;|streetstreet a 1 1");
        Texts.bad(1, "bureau 1 0;street |streets 1 1");
    }

    private static void blanks() {
        Sentences.say("Spaces (byte 32) and line feeds (byte 10) may stand between tokens and at both ends of the "
                + "text.");
        Texts.good("\n \nbureau\n\n1\n \n0\n;\n\nstreet  s  0  0  ;\nborrower a s\n5 9\n;lend a 0 1 \n \n");
        Texts.good("bureau 1 0;street s 0 0;borrower a s 5 9;lend a 0 1");
        int[] others = {0, 9, 11, 12, 13, 31, 33, 127, 160, 255};
        for (int other : others) {
            Texts.bad(1, "bureau 1|" + (char) other + "0");
            Texts.bad(1, "|" + (char) other + "bureau 1 0");
            Texts.bad(1, "bureau 1 0|" + (char) other);
        }
        Texts.bad(1, "|bu reau 1 0");
        Texts.bad(1, "bureau 1 0 |0");
    }

    private static void sticking() {
        Sentences.say("A word or number that directly follows a word or number, without a space or line feed "
                + "between them");
        Texts.bad(1, "bureau|1 0");
        Texts.bad(1, "bureau 1 0;hours|1");
        Texts.bad(1, "bureau 1 0;street s|0 0");
        Texts.bad(1, "bureau 1 0;street s 0|x");
        Texts.bad(1, "bureau 1 0;hours 1|hours");
        Texts.good("bureau\n1\n0;hours\n1");
        Texts.good("bureau 1 0;hours 1;hours 1");
    }

    private static void offsets() {
        Sentences.say("The parser reports the error with the smallest offset.");
        Texts.bad(2, "bureau |99 999;street elmelme");
        Texts.bad(3, ONE + ";lend |b 99 99;?");
        Texts.bad(6, ONE + ";lend a 0 1;lend a 0 |1x");
        Sentences.say("The offset of an error is the offset of the first byte of its token.");
        Texts.bad(2, "bureau |0025 0");
        Texts.bad(1, "bureau 1 |12345");
        Texts.bad(4, "bureau 1 0;street abcdef 0 0;street  |abcdef 0 0");
        Sentences.say("If the text ends too early, the offset is the length of the text.");
        Texts.bad(1, "|");
        Texts.bad(1, " |");
        Texts.bad(1, "\n\n|");
        Texts.bad(1, "bureau|");
        Texts.bad(1, "bureau 1 \n |");
        Texts.bad(1, "bureau 1 0; |");
        Texts.bad(1, "bureau 1 0;street s 0|");
        SilenceBureau x = new SilenceBureau();
        Check.append(x, "bureau 1 0;hours 11");
        Sentences.throwing("a text that the length cuts", Check.ARGUMENT, () -> x.load(16));
        Sentences.same("the length is that of the text, not of the buffer", 16, x.errorOffset());
    }

    private static void smallestKind() {
        Sentences.say("If several kinds of error apply to one token, the parser reports the smallest kind.");
        Texts.bad(1, "bureau |10000 0");
        Texts.bad(1, "bureau 1 0;street abcdef 0 0;street |abcdefg 0 0");
        Texts.bad(1, ONE + ";lend |nobodyx 0 0");
        Texts.bad(1, ONE + ";lend a |00048 1");
        Texts.bad(2, ONE + ";lend a 0 1;lend a 0 |7");
        Texts.bad(2, ONE + ";lend a 0 1;permit s 0 |13");
        Texts.bad(2, ONE + ";lend a 47 1;lend a 47 |2");
        Texts.bad(2, ONE + ";whistle |0");
    }

    private static void syntax() {
        Sentences.say("Kind 1, syntax error: a token that the grammar does not allow at this place");
        Texts.bad(1, "|street s 0 0");
        Texts.bad(1, "bureau |a 0");
        Texts.bad(1, "bureau 1 |;");
        Texts.bad(1, "bureau 1 0;|7");
        Texts.bad(1, "bureau 1 0;|bureau 1 0");
        Texts.bad(1, "bureau 1 0;street |7 0 0");
        Texts.bad(1, "bureau 1 0;street s 0 0 |0");
        Texts.bad(1, ONE + ";whistle |a");
        Sentences.say("a name with more than 6 letters, a number with more than 4 digits");
        Texts.good("bureau 0024 0099;street abcdef 0099 0000");
        Texts.bad(1, "bureau |00024 0");
        Texts.bad(1, "bureau 1 0;street |abcdefg 0 0");
        Texts.bad(1, "bureau 1 0;street s 0 |00000");
        Texts.bad(1, "bureau 1 0;hours |00001");
        Texts.bad(1, ONE + ";whistle |00000");
        Texts.bad(1, "bureau |99999999999999999999999 0");
        Sentences.say("a byte that starts no token, or the end of the text.");
        Texts.bad(1, "bureau 1 0;street s 0 0|_");
        Texts.bad(1, "bureau 1 0;street s 0 |");
    }

    private static void ranges() {
        Sentences.say("Kind 2, out of range: a number outside its range.");
        Texts.bad(2, "bureau 1 0;street s |100 0");
        Texts.bad(2, "bureau 1 0;street s 0 |9999");
        Texts.bad(2, ONE + ";borrower b s |10 0");
        Texts.bad(2, ONE + ";borrower b s 0 |1000");
        Sentences.say("A start is out of range if it is not in the horizon.");
        Texts.good(ONE + ";lend a 0 1;lend a 47 1");
        Texts.bad(2, ONE + ";lend a |48 1");
        Texts.good(ONE + ";hours 9;lend a 9 1;lend a 56 1");
        Texts.bad(2, ONE + ";hours 9;lend a |8 1");
        Texts.bad(2, ONE + ";hours 9;lend a |57 1");
        Texts.good(ONE + ";hours 9;permit s 9 1;permit s 56 1");
        Texts.bad(2, ONE + ";hours 9;permit s |8 1");
        Texts.bad(2, ONE + ";hours 9;permit s |57 1");
        Sentences.say("A length is out of range if the last hour is not in the horizon.");
        Texts.good(ONE + ";hours 9;lend a 51 6");
        Texts.bad(2, ONE + ";hours 9;lend a 52 |6");
        Texts.bad(2, ONE + ";hours 9;lend a 56 |2");
        Texts.bad(2, ONE + ";lend a 0 |0");
        Texts.bad(2, ONE + ";lend a 0 |7");
        Texts.good(ONE + ";hours 9;permit s 45 12");
        Texts.bad(2, ONE + ";hours 9;permit s 46 |12");
        Texts.bad(2, ONE + ";permit s 0 |0");
        Texts.bad(2, ONE + ";permit s 0 |13");
        Sentences.say("The number after \"whistle\" is out of range if there is no such loan.");
        Texts.bad(2, "bureau 1 0;whistle |0");
        Texts.good(ONE + ";lend a 0 1;lend a 1 1;hours 2;whistle 1");
        Texts.bad(2, ONE + ";lend a 0 1;lend a 1 1;hours 2;whistle |2");
        Sentences.say("The number after \"hours\" is out of range if the clock would exceed 9999.");
        // A text of 700 bytes lets 7,524 hours pass at most, so that none comes near 9999.
        Sentences.same("as far as a text can go", 76 * 99, Check.loaded("bureau 1 0" + ";hours 99".repeat(76)).clock());
    }

    private static void names() {
        Sentences.say("Kind 3, unknown name: a name of a street or borrower that does not exist.");
        Texts.bad(3, "bureau 1 0;permit |s 0 1");
        Texts.bad(3, ONE + ";permit |a 0 1");
        Texts.bad(3, ONE + ";lend |s 0 1");
        Texts.bad(3, ONE + ";lend |aa 0 1");
        Texts.bad(3, ONE + ";borrower b |a 0 0");
        Texts.bad(3, ONE + ";borrower b |b 0 0");
        Sentences.say("Kind 4, duplicate name: the name after \"street\" that a street has, or the name after");
        Texts.bad(4, ONE + ";street |s 0 0");
        Texts.bad(4, ONE + ";borrower |a s 0 0");
        Texts.bad(4, ONE + ";borrower |a nobody 0 0");
        Texts.good(ONE + ";street a 0 0;borrower s a 0 0");
    }

    private static void tooMany() {
        Sentences.say("Kind 5, too many: the word of a 9th \"street\", a 13th \"borrower\" or an 11th \"permit\".");
        Texts.good(Texts.streets(8, "0 0"));
        Texts.bad(5, Texts.streets(8, "0 0") + "; |street a 0 0");
        Texts.good(Texts.borrowers(12));
        Texts.bad(5, Texts.borrowers(12) + ";|borrower a s 0 0");
        Texts.good(Texts.permits(10));
        Texts.bad(5, Texts.permits(10) + ";|permit s 0 99");
        Texts.bad(5, Texts.permits(10) + ";hours 9;|permit");
    }

    private static void refused() {
        Sentences.say("Kind 6, refused: the last number after \"permit\" if the permit cannot be granted");
        Texts.bad(6, ONE + ";lend a 5 2;permit s 4 |2");
        Texts.bad(6, ONE + ";lend a 5 2;permit s 6 |1");
        Texts.good(ONE + ";lend a 5 2;permit s 4 1;permit s 7 1");
        Texts.bad(6, ONE + ";lend a 5 2;hours 6;permit s 6 |1");
        Sentences.say("the last number after \"lend\" if the loan is refused");
        Texts.bad(6, ONE + ";lend a 0 1;hours 2;lend a 9 |1");
        Texts.bad(6, ONE + ";permit s 9 1;lend a 9 |1");
        Texts.bad(6, ONE + ";lend a 9 1;lend a 9 |1");
        Texts.bad(6, ONE + ";lend a 0 6;lend a 6 |4");
        Texts.good(ONE + ";lend a 0 6;lend a 6 3");
        Texts.bad(6, Texts.loans(30) + ";lend a 40 |1");
        Sentences.say("or the number after \"whistle\" if the loan is neither ended nor overdue.");
        Texts.bad(6, ONE + ";lend a 1 2;whistle |0");
        Texts.bad(6, ONE + ";lend a 1 2;hours 2;whistle |0");
        Texts.good(ONE + ";lend a 1 2;hours 3;whistle 0");
        Texts.good(ONE + ";lend a 1 2;hours 4;whistle 0");
        Texts.bad(6, ONE + ";lend a 1 2;hours 4;whistle 0;whistle |0");
        Texts.bad(6, ONE + ";borrower b s 6 9;lend a 1 2;lend b 1 2;hours 4;whistle |0");
    }

    private static void newObject() {
        Sentences.say("A new simulator is in the state that the text");
        SilenceBureau x = new SilenceBureau();
        Sentences.same("the state", Check.picture(Check.loaded("bureau 2 5; street elm 60 20; street oak 85 50; "
                + "borrower ann elm 3 40; borrower bob oak 7 90; borrower cid oak 2 50; permit oak 10 2; lend ann 4 2; "
                + "lend bob 6 3; hours 5")), Check.picture(x));
        SilenceBureau y = new SilenceBureau();
        Sentences.throwing("the output is empty", Check.INDEX, () -> y.outputByte(0));
        Sentences.throwing("the input is empty", Check.INDEX, () -> y.load(1));
        Sentences.same("the first bytes appended", 20, y.append(0, 0, 0, 0, 0));
        Sentences.same("nothing to undo", 0, y.undoCount());
        Sentences.throwing("undo", Check.STATE, () -> y.undo());
        Sentences.throwing("nothing saved", Check.STATE, () -> y.restore(0));
        Sentences.throwing("nor in the other slot", Check.STATE, () -> y.restore(1));
    }

    private static void append() {
        Sentences.promise(2);
        Sentences.say("Returns the new length of the buffer.");
        SilenceBureau x = new SilenceBureau();
        for (int length = 20; length <= 680; length += 20) {
            Sentences.same("length", length, x.append(-1, -1, -1, -1, -1));
        }
        Sentences.say("Throws `IllegalStateException` if the buffer would be longer than 700 bytes");
        Sentences.same("the last bytes that it takes", 700, x.append(1, 1, 1, 1, 1));
        Sentences.throwing("twenty more", Check.STATE, () -> x.append(1, 1, 1, 1, 1));
        Sentences.throwing("they were not appended", Check.INDEX, () -> x.load(701));
        Sentences.throwing("the bytes before are there", Check.ARGUMENT, () -> x.load(700));
        Sentences.same("after load the buffer takes bytes again", 20, x.append(1, 1, 1, 1, 1));
        SilenceBureau y = new SilenceBureau();
        byte[] text = "bureau 3 4;hours 99 ".getBytes(StandardCharsets.ISO_8859_1);
        int[] words = new int[5];
        for (int i = 0; i < 20; i++) {
            words[i / 4] |= text[i] << 24 - 8 * (i % 4);
        }
        y.append(words[0], words[1], words[2], words[3], words[4]);
        y.load(20);
        Sentences.same("the most significant byte is first", 99, y.clock());
        y.append(0xffffffff, 0, 0, 0, 0);
        Sentences.throwing("a byte of 255", Check.ARGUMENT, () -> y.load(1));
        Sentences.same("starts no token", 0, y.errorOffset());
    }

    private static void load() {
        Sentences.promise(3);
        Sentences.say("- `length`: the number of bytes to parse, 0 to the length of the buffer");
        SilenceBureau x = new SilenceBureau();
        Check.append(x, "bureau 1 0;hours 9?");
        Sentences.throwing("a length below 0", Check.INDEX, () -> x.load(-1));
        Sentences.throwing("a length above that of the buffer", Check.INDEX, () -> x.load(21));
        Sentences.same("the bytes behind it are not parsed", 0, x.load(18));
        Sentences.same("the bytes before it are", 9, x.clock());
        Sentences.throwing("the whole buffer is gone", Check.INDEX, () -> x.load(1));
        Sentences.throwing("no bytes of an empty buffer", Check.ARGUMENT, () -> x.load(0));
        Check.append(x, "bureau 2 0;hours 100");
        Sentences.throwing("no bytes of a filled buffer", Check.ARGUMENT, () -> x.load(0));
        Sentences.throwing("it is empty after an error too", Check.INDEX, () -> x.load(20));
        Sentences.say("Returns the number of loans.");
        Sentences.same("none", 0, Check.load(x, Texts.loans(0)));
        Sentences.same("thirty", 30, Check.load(x, Texts.loans(30)));
        Sentences.same("with cancelled ones", 2, Check.load(x, ONE + ";borrower b s 6 9;lend a 1 2;lend b 1 2"));
        Sentences.say("Throws `IndexOutOfBoundsException` if length is out of range;"
                + " the input buffer and the reported error");
        Sentences.throwing("an error", Check.ARGUMENT, () -> Check.load(x, "bureau 1 |0"));
        Check.append(x, "bureau 1 0;hours 7  ");
        Sentences.throwing("too great a length", Check.INDEX, () -> x.load(Integer.MAX_VALUE));
        Sentences.throwing("too small a length", Check.INDEX, () -> x.load(Integer.MIN_VALUE));
        Sentences.same("the error stays", 9, x.errorOffset());
        Sentences.same("the input stays", 0, x.load(20));
        errorInLoad();
    }

    private static void errorInLoad() {
        Sentences.say("Throws `IllegalArgumentException` if the text has an error;"
                + " only the input buffer and the reported");
        SilenceBureau x = new SilenceBureau();
        x.pay(0, 1);
        x.save(0);
        x.pay(1, 1);
        x.writeBorrower(0);
        String before = Check.picture(x);
        Sentences.throwing("an error behind many lines", Check.ARGUMENT, () -> Check.load(x, Texts.loans(30) + ";x"));
        Sentences.same("the state", before, Check.picture(x));
        Sentences.same("the output", "ann@elm 3 27", Check.output(x, 12));
        Sentences.same("the changes", 2, x.undoCount());
        Sentences.same("undo", 1, x.undo());
        Sentences.same("the saved state", 5, x.restore(0));
        Sentences.same("its credit", 27, x.creditOf(0));
        Sentences.say("The recorded changes and the saved states are discarded. The output buffer stays as it is.");
        x.save(1);
        Check.load(x, "bureau 1 0");
        Sentences.same("no changes", 0, x.undoCount());
        Sentences.throwing("no undo", Check.STATE, () -> x.undo());
        Sentences.throwing("no state in slot 0", Check.STATE, () -> x.restore(0));
        Sentences.throwing("no state in slot 1", Check.STATE, () -> x.restore(1));
        Sentences.same("the output", "ann@elm 3 27", Check.output(x, 12));
        Sentences.say("The input buffer is empty afterwards, also if the text has an error.");
        Sentences.same("after a good text", 20, x.append(0, 0, 0, 0, 0));
        Sentences.throwing("a bad text", Check.ARGUMENT, () -> x.load(20));
        Sentences.same("after a bad text", 20, x.append(0, 0, 0, 0, 0));
    }

    private static void errorKind() {
        Sentences.promise(4);
        Sentences.say("Returns 1 to 6; 0 if that call found no error or if no text has been parsed yet.");
        SilenceBureau x = new SilenceBureau();
        Sentences.same("a new object", 0, x.errorKind());
        x.append(0, 0, 0, 0, 0);
        Sentences.throwing("a length out of range", Check.INDEX, () -> x.load(21));
        Sentences.same("no text has been parsed", 0, x.errorKind());
        String[] texts = {"", "bureau 0 0", "bureau 1 0;permit s 0 1", "bureau 1 0;street s 0 0;street s 0 0",
            Texts.permits(10) + ";permit", ONE + ";lend a 0 1;whistle 0"};
        for (int kind = 1; kind <= 6; kind++) {
            String text = texts[kind - 1];
            SilenceBureau y = new SilenceBureau();
            Sentences.throwing("a text with an error", Check.ARGUMENT, () -> Check.load(y, text));
            Sentences.same("kind", kind, y.errorKind());
            y.advance(1);
            y.undo();
            Sentences.same("the kind stays", kind, y.errorKind());
            Check.load(y, "bureau 1 0");
            Sentences.same("no error any more", 0, y.errorKind());
        }
    }

    private static void errorOffset() {
        Sentences.promise(5);
        Sentences.say("Returns the offset in bytes; NONE if errorKind() is 0.");
        SilenceBureau x = new SilenceBureau();
        Sentences.same("a new object", SilenceBureau.NONE, x.errorOffset());
        Sentences.throwing("an error at the first byte", Check.ARGUMENT, () -> Check.load(x, "Bureau"));
        Sentences.same("offset", 0, x.errorOffset());
        Check.load(x, "bureau 1 0");
        Sentences.same("no error", SilenceBureau.NONE, x.errorOffset());
        String full = "bureau 1 0" + " ".repeat(689);
        Sentences.throwing("an error at the last byte", Check.ARGUMENT, () -> Check.load(x, full + "x"));
        Sentences.same("offset", 699, x.errorOffset());
        Sentences.throwing("the end of the longest text", Check.ARGUMENT, () -> Check.load(x, full + ";"));
        Sentences.same("offset", 700, x.errorOffset());
        Sentences.same("the longest text", 0, Check.load(x, full + "\n"));
        Sentences.same("has no error", SilenceBureau.NONE, x.errorOffset());
    }
}

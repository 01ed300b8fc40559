/** The description text: what is read, and each kind of error at its offset (promises 3 to 5). */
final class GrammarTest {
    private static final String HEAD = "bureau 2 5;street elm 60 20;borrower ann elm 3 999;";

    public static void main(String[] args) {
        goodTexts();
        syntaxErrors();
        rangeErrors();
        nameErrors();
        countErrors();
        refusals();
        smallestOffset();
        smallestKind();
        Check.end("GrammarTest");
    }

    private static void good(String text) {
        SilenceBureau x = new SilenceBureau();
        Check.same("'" + text + "' is read", "answer " + loansIn(text), Check.nameOfThrown(() -> Check.load(x, text)));
        Check.same("'" + text + "' has no error", 0, x.errorKind());
    }

    private static int loansIn(String text) {
        return text.split(";lend ", -1).length - 1;
    }

    /** The text is given with a bar at the place of the error. */
    private static void bad(int kind, String marked) {
        int offset = marked.indexOf('|');
        String text = marked.substring(0, offset) + marked.substring(offset + 1);
        SilenceBureau x = new SilenceBureau();
        Check.throwing("'" + marked + "' is refused", Check.ARGUMENT, () -> Check.load(x, text));
        Check.same("kind for '" + marked + "'", kind, x.errorKind());
        Check.same("offset for '" + marked + "'", offset, x.errorOffset());
        Check.same("'" + marked + "' alters nothing", 5, x.clock());
    }

    private static void goodTexts() {
        good("bureau 1 0");
        good("bureau 24 99");
        good("bureau 0024 0000");
        good("  \n bureau\n1 \n 0 \n");
        good("bureau 1 0;street a 0 0;street zzzzzz 99 99");
        good("bureau 1 0 ; street a 0 0 ;street b 0099 0000\n;\nstreet c 1 1");
        good("bureau 1 0;street street 1 1;street bureau 1 1;street lend 1 1;borrower street street 9 999;lend street 0 1");
        good("bureau 1 0;street a 1 1;borrower a a 0 0;hours 1;hours 99");
        good(HEAD + "lend ann 0 6;lend ann 47 1;lend ann 42 5");
        good(HEAD + "permit elm 0 12;permit elm 0 12;permit elm 36 12;permit elm 47 1");
        good(HEAD + "lend ann 0 1;hours 1;whistle 0");
        good(HEAD + "lend ann 0 1;hours 3;whistle 0;lend ann 50 1");
        SilenceBureau x = Check.loaded("bureau 1 0;street abcdef 1 1;street z 1 1;borrower b z 1 0;"
                + "borrower uvwxyz abcdef 0009 0123");
        Check.same("names and numbers", "uvwxyz@abcdef 9 123", Check.output(x, x.writeBorrower(1)));
        Check.same("short names", "b@z 1 0", Check.output(x, x.writeBorrower(0)));
        StringBuilder full = new StringBuilder("bureau 1 0");
        while (full.length() < 691) {
            full.append(";hours 99");
        }
        while (full.length() < 700) {
            full.append(' ');
        }
        Check.same("700 bytes", 76 * 99, Check.loaded(full.toString()).clock());
    }

    private static void syntaxErrors() {
        bad(1, "|");
        bad(1, "  \n|");
        bad(1, "|burea");
        bad(1, "|bureaus 1 0");
        bad(1, "|Bureau 1 0");
        bad(1, "|xureau 1 0");
        bad(1, "bureau 1 0;|xtreet a 1 1");
        bad(1, "bureau 1 0;|houry 1");
        bad(1, "|1 0");
        bad(1, "|;bureau 1 0");
        bad(1, "|street a 1 1");
        bad(1, "bureau|");
        bad(1, "bureau |");
        bad(1, "bureau |x 0");
        bad(1, "bureau|1 0");
        bad(1, "bureau 1|");
        bad(1, "bureau 1|;");
        bad(1, "bureau |00001 0");
        bad(1, "bureau 1 |00000");
        bad(1, "bureau |99999 0");
        bad(1, "bureau |99999999999999999999 0");
        bad(1, "bureau 1 0|x");
        bad(1, "bureau 1 0 |x");
        bad(1, "bureau 1 0 |0");
        bad(1, "bureau 1 0;|");
        bad(1, "bureau 1 0; \n |");
        bad(1, "bureau 1 0;|;");
        bad(1, "bureau 1 0;|5");
        bad(1, "bureau 1 0;|streets a 1 1");
        bad(1, "bureau 1 0;|stree");
        bad(1, "bureau 1 0;|bureau 1 0");
        bad(1, "bureau 1 0|\t");
        bad(1, "bureau 1 0|\r");
        bad(1, "bureau 1 0|.");
        bad(1, "bureau |-1 0");
        bad(1, "bureau 1 0;|Street a 1 1");
        bad(1, "bureau 1 0;|\u00e9");
        bad(1, "bureau 1 0;|\0");
        bad(1, "bureau 1 0;street |abcdefg 1 1");
        bad(1, "bureau 1 0;street |1 1 1");
        bad(1, "bureau 1 0;street|1 1 1");
        bad(1, "bureau 1 0;street |; 1");
        bad(1, "bureau 1 0;street a|1 1");
        bad(1, "bureau 1 0;street a 1|a");
        bad(1, "bureau 1 0;street a |a 1");
        bad(1, "bureau 1 0;street a 1|");
        bad(1, "bureau 1 0;street a 1|;");
        bad(1, "bureau 1 0;street a 1 1 |1");
        bad(1, "bureau 1 0;street a|A 1 1");
        bad(1, "bureau 1 0;street a 1 |00001");
        bad(1, HEAD + "lend|");
        bad(1, HEAD + "lend ann|");
        bad(1, HEAD + "lend ann|4 2");
        bad(1, HEAD + "lend ann 4|");
        bad(1, HEAD + "lend ann 4|;");
        bad(1, HEAD + "lend ann |10000 1");
        bad(1, HEAD + "lend |borrower 4 2");
        bad(1, HEAD + "lend ann 4 2|lend ann 8 2");
        bad(1, HEAD + "lend ann 4 2 |lend ann 8 2");
        bad(1, HEAD + "lend ann 4 2|,");
        bad(1, HEAD + "permit|;");
        bad(1, HEAD + "permit elm |elm");
        bad(1, HEAD + "permit elm 1 |");
        bad(1, HEAD + "borrower bob|");
        bad(1, HEAD + "borrower bob |3");
        bad(1, HEAD + "borrower bob elm|");
        bad(1, HEAD + "borrower bob elm 3|");
        bad(1, HEAD + "borrower bob |whistle 3 3");
        bad(1, HEAD + "whistle|");
        bad(1, HEAD + "whistle |x");
        bad(1, HEAD + "hours|");
        bad(1, HEAD + "hours|9");
        bad(1, HEAD + "hours |nine");
        bad(1, HEAD + "hours |00009");
    }

    private static void rangeErrors() {
        bad(2, "bureau |0 0");
        bad(2, "bureau |25 0");
        bad(2, "bureau |9999 0");
        bad(2, "bureau 1 |100");
        bad(2, "bureau 1 0;street a |100 1");
        bad(2, "bureau 1 0;street a 1 |100");
        bad(2, HEAD + "borrower bob elm |10 1");
        bad(2, HEAD + "borrower bob elm 1 |1000");
        bad(2, HEAD + "hours |0");
        bad(2, HEAD + "hours |100");
        bad(2, HEAD + "whistle |0");
        bad(2, HEAD + "lend ann 0 1;hours 1;whistle |1");
        bad(2, HEAD + "lend ann |48 1");
        bad(2, HEAD + "lend ann 47 |2");
        bad(2, HEAD + "lend ann 47 |0");
        bad(2, HEAD + "lend ann 0 |7");
        bad(2, HEAD + "lend ann 43 |6");
        bad(2, HEAD + "hours 5;lend ann |4 1");
        bad(2, HEAD + "hours 5;lend ann |53 1");
        bad(2, HEAD + "hours 5;lend ann 52 |2");
        bad(2, HEAD + "permit elm |48 1");
        bad(2, HEAD + "permit elm 47 |2");
        bad(2, HEAD + "permit elm 0 |0");
        bad(2, HEAD + "permit elm 0 |13");
        bad(2, HEAD + "permit elm 37 |12");
        bad(2, HEAD + "hours 5;permit elm |4 1");
        bad(2, HEAD + "hours 5;permit elm |53 1");
    }

    private static void nameErrors() {
        bad(3, HEAD + "lend |bob 0 1");
        bad(3, HEAD + "lend |elm 0 1");
        bad(3, HEAD + "permit |ann 0 1");
        bad(3, HEAD + "permit |el 0 1");
        bad(3, HEAD + "permit |elms 0 1");
        bad(3, HEAD + "borrower bob |bob 1 1");
        bad(3, "bureau 1 0;borrower bob |elm 1 1");
        bad(4, HEAD + "street |elm 1 1");
        bad(4, HEAD + "borrower |ann elm 1 1");
        bad(4, "bureau 1 0;street abcdef 1 1;street abcdeg 1 1;street bbcdef 1 1;street |abcdef 1 1");
    }

    private static void countErrors() {
        StringBuilder streets = new StringBuilder("bureau 1 0");
        for (char c = 'a'; c < 'i'; c++) {
            streets.append(";street ").append(c).append(" 1 1");
        }
        good(streets.toString());
        bad(5, streets + ";|street i 1 1");
        bad(5, streets + ";|street");
        bad(5, streets + ";|street a 1 1");
        StringBuilder borrowers = new StringBuilder("bureau 1 0;street s 1 1");
        for (char c = 'a'; c < 'm'; c++) {
            borrowers.append(";borrower ").append(c).append(" s 1 1");
        }
        good(borrowers.toString());
        bad(5, borrowers + ";|borrower m s 1 1");
        bad(5, borrowers + ";|borrower a x 99 99");
        StringBuilder permits = new StringBuilder("bureau 1 0;street s 1 1");
        for (int i = 0; i < 10; i++) {
            permits.append(";permit s 5 1");
        }
        good(permits.toString());
        bad(5, permits + ";|permit s 5 1");
        bad(5, permits + ";|permit x");
    }

    private static void refusals() {
        bad(6, HEAD + "permit elm 2 2;lend ann 3 |1");
        bad(6, HEAD + "lend ann 2 2;lend ann 3 |1");
        bad(6, HEAD + "lend ann 0 1;hours 3;lend ann 9 |1");
        bad(6, HEAD + "borrower bob elm 9 20;lend bob 0 |3");
        bad(6, HEAD + "lend ann 3 1;permit elm 1 |3");
        bad(6, HEAD + "lend ann 0 6;hours 2;permit elm 5 |1");
        bad(6, HEAD + "lend ann 3 1;whistle |0");
        bad(6, HEAD + "lend ann 0 2;hours 1;whistle |0");
        bad(6, HEAD + "lend ann 0 2;hours 2;whistle 0;whistle |0");
        bad(6, HEAD + "borrower bob elm 9 99;lend ann 0 2;lend bob 0 2;whistle |0");
        StringBuilder loans = new StringBuilder("bureau 1 0;street s 1 1;borrower b s 1 99");
        for (int i = 0; i < 30; i++) {
            loans.append(";lend b ").append(i).append(" 1");
        }
        good(loans.toString());
        bad(6, loans + ";lend b 40 |1");
        bad(2, loans + ";lend b 40 |7");
    }

    private static void smallestOffset() {
        bad(3, HEAD + "lend |zed4 99 99");
        bad(2, HEAD + "lend ann |99 99 99");
        bad(6, HEAD + "lend ann 4 1;whistle |0x");
        bad(2, "bureau |0");
        bad(2, "bureau 1 |100;street");
        bad(4, HEAD + "street |elm 100 100;?");
    }

    private static void smallestKind() {
        bad(1, HEAD + "street |elmelme 1 1");
        bad(1, HEAD + "lend |annannann 1 1");
        bad(1, HEAD + "lend ann 1 |12345");
        bad(2, HEAD + "lend ann 1 1;lend ann 1 |7");
        bad(2, HEAD + "lend ann 1 1;permit elm 1 |13");
        bad(1, HEAD + "lend ann 1 1;lend ann 1 |00001");
        bad(1, HEAD + "whistle |00000");
    }
}

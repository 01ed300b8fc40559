/** The description text: what is read, and each kind of error at its offset (promises 3 to 5). */
final class GrammarTest {
    private static final String HEAD = "bureau 2 5;street elm 60 20;borrower ann elm 3 999;";

    public static void main(String[] args) {
        goodTexts();
        syntaxErrors();
        rangeErrors();
        nameErrors();
        countErrors();
        refusals();
        smallestOffset();
        smallestKind();
        Check.end("GrammarTest");
    }

    private static void goodTexts() {
        Texts.good("bureau 1 0");
        Texts.good("bureau 24 99");
        Texts.good("bureau 0024 0000");
        Texts.good("  \n bureau\n1 \n 0 \n");
        Texts.good("bureau 1 0;street a 0 0;street zzzzzz 99 99");
        Texts.good("bureau 1 0 ; street a 0 0 ;street b 0099 0000\n;\nstreet c 1 1");
        Texts.good("bureau 1 0;street street 1 1;street bureau 1 1;street lend 1 1;borrower street street 9 999;lend street 0 1");
        Texts.good("bureau 1 0;street a 1 1;borrower a a 0 0;hours 1;hours 99");
        Texts.good(HEAD + "lend ann 0 6;lend ann 47 1;lend ann 42 5");
        Texts.good(HEAD + "permit elm 0 12;permit elm 0 12;permit elm 36 12;permit elm 47 1");
        Texts.good(HEAD + "lend ann 0 1;hours 1;whistle 0");
        Texts.good(HEAD + "lend ann 0 1;hours 3;whistle 0;lend ann 50 1");
        SilenceBureau x = Check.loaded("bureau 1 0;street abcdef 1 1;street z 1 1;borrower b z 1 0;"
                + "borrower uvwxyz abcdef 0009 0123");
        Check.same("names and numbers", "uvwxyz@abcdef 9 123", Check.output(x, x.writeBorrower(1)));
        Check.same("short names", "b@z 1 0", Check.output(x, x.writeBorrower(0)));
        StringBuilder full = new StringBuilder("bureau 1 0");
        while (full.length() < 691) {
            full.append(";hours 99");
        }
        while (full.length() < 700) {
            full.append(' ');
        }
        Check.same("700 bytes", 76 * 99, Check.loaded(full.toString()).clock());
    }

    private static void syntaxErrors() {
        Texts.bad(1, "|");
        Texts.bad(1, "  \n|");
        Texts.bad(1, "|burea");
        Texts.bad(1, "|bureaus 1 0");
        Texts.bad(1, "|Bureau 1 0");
        Texts.bad(1, "|xureau 1 0");
        Texts.bad(1, "bureau 1 0;|xtreet a 1 1");
        Texts.bad(1, "bureau 1 0;|houry 1");
        Texts.bad(1, "|1 0");
        Texts.bad(1, "|;bureau 1 0");
        Texts.bad(1, "|street a 1 1");
        Texts.bad(1, "bureau|");
        Texts.bad(1, "bureau |");
        Texts.bad(1, "bureau |x 0");
        Texts.bad(1, "bureau|1 0");
        Texts.bad(1, "bureau 1|");
        Texts.bad(1, "bureau 1|;");
        Texts.bad(1, "bureau |00001 0");
        Texts.bad(1, "bureau 1 |00000");
        Texts.bad(1, "bureau |99999 0");
        Texts.bad(1, "bureau |99999999999999999999 0");
        Texts.bad(1, "bureau 1 0|x");
        Texts.bad(1, "bureau 1 0 |x");
        Texts.bad(1, "bureau 1 0 |0");
        Texts.bad(1, "bureau 1 0;|");
        Texts.bad(1, "bureau 1 0; \n |");
        Texts.bad(1, "bureau 1 0;|;");
        Texts.bad(1, "bureau 1 0;|5");
        Texts.bad(1, "bureau 1 0;|streets a 1 1");
        Texts.bad(1, "bureau 1 0;|stree");
        Texts.bad(1, "bureau 1 0;|bureau 1 0");
        Texts.bad(1, "bureau 1 0|\t");
        Texts.bad(1, "bureau 1 0|\r");
        Texts.bad(1, "bureau 1 0|.");
        Texts.bad(1, "bureau |-1 0");
        Texts.bad(1, "bureau 1 0;|Street a 1 1");
        Texts.bad(1, "bureau 1 0;|\u00e9");
        Texts.bad(1, "bureau 1 0;|\0");
        Texts.bad(1, "bureau 1 0;street |abcdefg 1 1");
        Texts.bad(1, "bureau 1 0;street |1 1 1");
        Texts.bad(1, "bureau 1 0;street|1 1 1");
        Texts.bad(1, "bureau 1 0;street |; 1");
        Texts.bad(1, "bureau 1 0;street a|1 1");
        Texts.bad(1, "bureau 1 0;street a 1|a");
        Texts.bad(1, "bureau 1 0;street a |a 1");
        Texts.bad(1, "bureau 1 0;street a 1|");
        Texts.bad(1, "bureau 1 0;street a 1|;");
        Texts.bad(1, "bureau 1 0;street a 1 1 |1");
        Texts.bad(1, "bureau 1 0;street a|A 1 1");
        Texts.bad(1, "bureau 1 0;street a 1 |00001");
        Texts.bad(1, HEAD + "lend|");
        Texts.bad(1, HEAD + "lend ann|");
        Texts.bad(1, HEAD + "lend ann|4 2");
        Texts.bad(1, HEAD + "lend ann 4|");
        Texts.bad(1, HEAD + "lend ann 4|;");
        Texts.bad(1, HEAD + "lend ann |10000 1");
        Texts.bad(1, HEAD + "lend |borrower 4 2");
        Texts.bad(1, HEAD + "lend ann 4 2|lend ann 8 2");
        Texts.bad(1, HEAD + "lend ann 4 2 |lend ann 8 2");
        Texts.bad(1, HEAD + "lend ann 4 2|,");
        Texts.bad(1, HEAD + "permit|;");
        Texts.bad(1, HEAD + "permit elm |elm");
        Texts.bad(1, HEAD + "permit elm 1 |");
        Texts.bad(1, HEAD + "borrower bob|");
        Texts.bad(1, HEAD + "borrower bob |3");
        Texts.bad(1, HEAD + "borrower bob elm|");
        Texts.bad(1, HEAD + "borrower bob elm 3|");
        Texts.bad(1, HEAD + "borrower bob |whistle 3 3");
        Texts.bad(1, HEAD + "whistle|");
        Texts.bad(1, HEAD + "whistle |x");
        Texts.bad(1, HEAD + "hours|");
        Texts.bad(1, HEAD + "hours|9");
        Texts.bad(1, HEAD + "hours |nine");
        Texts.bad(1, HEAD + "hours |00009");
    }

    private static void rangeErrors() {
        Texts.bad(2, "bureau |0 0");
        Texts.bad(2, "bureau |25 0");
        Texts.bad(2, "bureau |9999 0");
        Texts.bad(2, "bureau 1 |100");
        Texts.bad(2, "bureau 1 0;street a |100 1");
        Texts.bad(2, "bureau 1 0;street a 1 |100");
        Texts.bad(2, HEAD + "borrower bob elm |10 1");
        Texts.bad(2, HEAD + "borrower bob elm 1 |1000");
        Texts.bad(2, HEAD + "hours |0");
        Texts.bad(2, HEAD + "hours |100");
        Texts.bad(2, HEAD + "whistle |0");
        Texts.bad(2, HEAD + "lend ann 0 1;hours 1;whistle |1");
        Texts.bad(2, HEAD + "lend ann |48 1");
        Texts.bad(2, HEAD + "lend ann 47 |2");
        Texts.bad(2, HEAD + "lend ann 47 |0");
        Texts.bad(2, HEAD + "lend ann 0 |7");
        Texts.bad(2, HEAD + "lend ann 43 |6");
        Texts.bad(2, HEAD + "hours 5;lend ann |4 1");
        Texts.bad(2, HEAD + "hours 5;lend ann |53 1");
        Texts.bad(2, HEAD + "hours 5;lend ann 52 |2");
        Texts.bad(2, HEAD + "permit elm |48 1");
        Texts.bad(2, HEAD + "permit elm 47 |2");
        Texts.bad(2, HEAD + "permit elm 0 |0");
        Texts.bad(2, HEAD + "permit elm 0 |13");
        Texts.bad(2, HEAD + "permit elm 37 |12");
        Texts.bad(2, HEAD + "hours 5;permit elm |4 1");
        Texts.bad(2, HEAD + "hours 5;permit elm |53 1");
    }

    private static void nameErrors() {
        Texts.bad(3, HEAD + "lend |bob 0 1");
        Texts.bad(3, HEAD + "lend |elm 0 1");
        Texts.bad(3, HEAD + "permit |ann 0 1");
        Texts.bad(3, HEAD + "permit |el 0 1");
        Texts.bad(3, HEAD + "permit |elms 0 1");
        Texts.bad(3, HEAD + "borrower bob |bob 1 1");
        Texts.bad(3, "bureau 1 0;borrower bob |elm 1 1");
        Texts.bad(4, HEAD + "street |elm 1 1");
        Texts.bad(4, HEAD + "borrower |ann elm 1 1");
        Texts.bad(4, "bureau 1 0;street abcdef 1 1;street abcdeg 1 1;street bbcdef 1 1;street |abcdef 1 1");
    }

    private static void countErrors() {
        Texts.good(Texts.streets(8, "1 1"));
        Texts.bad(5, Texts.streets(8, "1 1") + ";|street i 1 1");
        Texts.bad(5, Texts.streets(8, "1 1") + ";|street");
        Texts.bad(5, Texts.streets(8, "1 1") + ";|street a 1 1");
        Texts.good(Texts.borrowers(12));
        Texts.bad(5, Texts.borrowers(12) + ";|borrower m s 1 1");
        Texts.bad(5, Texts.borrowers(12) + ";|borrower a x 99 99");
        Texts.good(Texts.permits(10));
        Texts.bad(5, Texts.permits(10) + ";|permit s 5 1");
        Texts.bad(5, Texts.permits(10) + ";|permit x");
    }

    private static void refusals() {
        Texts.bad(6, HEAD + "permit elm 2 2;lend ann 3 |1");
        Texts.bad(6, HEAD + "lend ann 2 2;lend ann 3 |1");
        Texts.bad(6, HEAD + "lend ann 0 1;hours 3;lend ann 9 |1");
        Texts.bad(6, HEAD + "borrower bob elm 9 20;lend bob 0 |3");
        Texts.bad(6, HEAD + "lend ann 3 1;permit elm 1 |3");
        Texts.bad(6, HEAD + "lend ann 0 6;hours 2;permit elm 5 |1");
        Texts.bad(6, HEAD + "lend ann 3 1;whistle |0");
        Texts.bad(6, HEAD + "lend ann 0 2;hours 1;whistle |0");
        Texts.bad(6, HEAD + "lend ann 0 2;hours 2;whistle 0;whistle |0");
        Texts.bad(6, HEAD + "borrower bob elm 9 99;lend ann 0 2;lend bob 0 2;whistle |0");
        String loans = Texts.loans(30);
        Texts.good(loans);
        Texts.bad(6, loans + ";lend a 40 |1");
        Texts.bad(2, loans + ";lend a 40 |7");
    }

    private static void smallestOffset() {
        Texts.bad(3, HEAD + "lend |zed4 99 99");
        Texts.bad(2, HEAD + "lend ann |99 99 99");
        Texts.bad(6, HEAD + "lend ann 4 1;whistle |0x");
        Texts.bad(2, "bureau |0");
        Texts.bad(2, "bureau 1 |100;street");
        Texts.bad(4, HEAD + "street |elm 100 100;?");
    }

    private static void smallestKind() {
        Texts.bad(1, HEAD + "street |elmelme 1 1");
        Texts.bad(1, HEAD + "lend |annannann 1 1");
        Texts.bad(1, HEAD + "lend ann 1 |12345");
        Texts.bad(2, HEAD + "lend ann 1 1;lend ann 1 |7");
        Texts.bad(2, HEAD + "lend ann 1 1;permit elm 1 |13");
        Texts.bad(1, HEAD + "lend ann 1 1;lend ann 1 |00001");
        Texts.bad(1, HEAD + "whistle |00000");
    }
}

/** Each promise of the document, with answers worked out by hand: ordinary ones, edges, refusals. */
public final class Promises {
    private static final long NO = Long.MIN_VALUE;
    private static final int MAX = Integer.MAX_VALUE, MIN = Integer.MIN_VALUE;
    private static final int[] FAR = {-1, MIN, MAX};
    private static int wrong = 0;
    private static int checks = 0;

    public static void main(String[] args) {
        newObject();
        sort();
        ofTraits();
        ofShows();
        ofMore();
        herd();
        row();
        month();
        tell();
        feed();
        fenceFaults();
        fenceHolds();
        fenceMeans();
        most();
        told();
        fits();
        bars();
        hole();
        alike();
        missed();
        mix();
        prices();
        hid();
        months();
        odds();
        mean();
        book();
        looked();
        judge();
        imageAndUndo();
        undoAndFences();
        act();
        trace();
        taken();
        count();
        tape();
        itemAndRead();
        shift();
        System.out.println("promises: " + checks + " checks, " + wrong + " not as due");
        if (wrong != 0) {
            System.exit(1);
        }
    }

    private static void due(String what, long got, long want) {
        checks++;
        if (got != want) {
            wrong++;
            System.out.println(what + " answered " + got + ", due is " + want);
        }
    }

    private static void feedAll(FeetHorns x, String text) {
        for (int i = 0; i < text.length(); i++) {
            x.feed(text.charAt(i));
        }
    }

    private static int fence(FeetHorns x, String text) {
        feedAll(x, text);
        return x.fence();
    }

    private static void tellAll(FeetHorns x, int feet, int horns, int tails) {
        x.tell(0, feet);
        x.tell(1, horns);
        x.tell(2, tails);
    }

    private static void dueShows(String what, FeetHorns x, int sort, int feet, int horns, int tails) {
        due(what + ": feet", x.of(sort, 10), feet);
        due(what + ": horns", x.of(sort, 11), horns);
        due(what + ": tails", x.of(sort, 12), tails);
    }

    /** A cow of 4 feet, 2 horns, a tail, a toll of 5; a goose of 2 feet, no horns, a tail, a toll of 3. */
    private static FeetHorns cowAndGoose() {
        FeetHorns x = new FeetHorns();
        x.sort(0, 0, 4, 2, 1, 5);
        x.sort(0, 0, 2, 0, 1, 3);
        return x;
    }

    // ---- 1 to 10

    private static void newObject() {
        FeetHorns x = new FeetHorns();
        for (int what = 0; what < 5; what++) {
            due("1: count " + what, x.count(what), 0);
        }
        due("1: most", x.told(0), 8);
        due("1: month", x.told(1), 0);
        for (int h = 0; h < 3; h++) {
            due("1: count of the herd", x.told(10 + h), 0);
            due("1: count of the second", x.told(20 + h), 0);
            due("1: told", x.told(30 + h), -5);
        }
        due("1: of", x.of(0, 0), -1);
        due("1: tape", x.read(0, 0), NO);
        due("1: image", x.undo(), -3);
        due("1: trace", x.trace(0), -1);
    }

    private static void sort() {
        FeetHorns x = new FeetHorns();
        due("2: kind -1", x.sort(-1, 0, 0, 0, 0, 0), -1);
        due("2: kind 7", x.sort(7, 0, 0, 0, 0, 0), -1);
        due("2: kind ahead of v", x.sort(7, 99, 0, 0, 0, 0), -1);
        for (int bad : new int[] {-1, 10, MIN, MAX}) {
            due("2: v " + bad, x.sort(0, bad, 0, 0, 0, 0), -2);
            due("2: feet " + bad, x.sort(0, 0, bad, 0, 0, 0), -2);
            due("2: horns " + bad, x.sort(0, 0, 0, bad, 0, 0), -2);
            due("2: tails " + bad, x.sort(0, 0, 0, 0, bad, 0), -2);
        }
        due("2: toll -1", x.sort(0, 0, 0, 0, 0, -1), -2);
        due("2: toll 100", x.sort(0, 0, 0, 0, 0, 100), -2);
        due("2: none came", x.count(0), 0);
        due("2: greatest", x.sort(6, 9, 9, 9, 9, 99), 0);
        for (int i = 1; i < 5; i++) {
            due("2: number", x.sort(i, 0, 0, 0, 0, 0), i);
        }
        due("2: sixth", x.sort(0, 0, 0, 0, 0, 0), -4);
        due("2: bad ahead of full", x.sort(0, 10, 0, 0, 0, 0), -2);
        due("2: none ahead of full", x.sort(-1, 0, 0, 0, 0, 0), -1);
        due("2: five", x.count(0), 5);
    }

    private static void ofTraits() {
        FeetHorns x = new FeetHorns();
        x.sort(1, 1, 2, 3, 4, 5);
        x.sort(6, 9, 8, 7, 6, 95);
        x.herd(1, 0, 12);
        x.herd(1, 1, 11);
        int[] due = {6, 9, 8, 7, 6, 95, 95, 12, 11, -1};
        for (int what = 0; what < due.length; what++) {
            due("3: what " + what, x.of(1, what), due[what]);
        }
        due("3: kind of the first", x.of(0, 0), 1);
        due("3: herd of the first", x.of(0, 7), 0);
        due("3: what 13", x.of(0, 13), -1);
        due("3: no such sort", x.of(2, 0), -1);
        for (int far : FAR) {
            due("3: what " + far, x.of(0, far), -1);
            due("3: sort " + far, x.of(far, 0), -1);
        }
    }

    private static void ofShows() {
        FeetHorns x = new FeetHorns();
        x.sort(0, 1, 4, 2, 1, 0);
        x.sort(1, 3, 4, 2, 1, 0);
        x.sort(2, 1, 4, 2, 1, 0);
        x.sort(3, 1, 4, 2, 1, 0);
        x.sort(4, 1, 4, 2, 3, 0);
        dueShows("3: BEAST", x, 0, 4, 2, 1);
        dueShows("3: HORNED, odd", x, 1, 4, 3, 1);
        dueShows("3: CALF, month 0", x, 2, 4, 0, 1);
        x.month(4);
        dueShows("3: CALF, month 4", x, 2, 4, 0, 1);
        x.month(5);
        dueShows("3: CALF, month 5", x, 2, 4, 2, 1);
        dueShows("3: LAME", x, 3, 3, 2, 1);
        dueShows("3: PROUD, odd", x, 4, 4, 3, 6);

        x = new FeetHorns();
        x.sort(5, 6, 4, 2, 1, 0);
        x.sort(6, 0, 4, 2, 9, 0);
        x.sort(3, 0, 0, 1, 1, 0);
        x.sort(1, 8, 4, 2, 1, 0);
        x.sort(4, 2, 1, 1, 1, 0);
        x.row(1, 0, 7);
        x.row(1, 1, 8);
        x.row(1, 2, 3);
        dueShows("3: HIDDEN is a CALF", x, 0, 4, 0, 1);
        dueShows("3: TOLD, month 0", x, 1, 3, 2, 7);
        x.month(6);
        dueShows("3: HIDDEN in its month", x, 0, 0, 0, 0);
        x.month(7);
        dueShows("3: HIDDEN behind its month", x, 0, 4, 2, 1);
        dueShows("3: TOLD, month 7", x, 1, 3, 2, 8);
        x.month(11);
        dueShows("3: TOLD, month 11", x, 1, 3, 2, 3);
        dueShows("3: LAME without feet", x, 2, 0, 1, 1);
        dueShows("3: HORNED, even", x, 3, 4, 2, 1);
        dueShows("3: PROUD, even", x, 4, 1, 1, 2);
    }

    private static void ofMore() {
        FeetHorns x = new FeetHorns();
        x.sort(0, 0, 1, 1, 1, 7);
        x.sort(2, 0, 1, 1, 1, 7);
        x.sort(3, 0, 0, 1, 1, 7);
        x.sort(4, 1, 1, 1, 1, 7);
        x.sort(6, 0, 1, 1, 1, 7);
        due("3: a fence", fence(x, "see 10 h=0;see 20 h=1;see 30 h=2;see 5 h<9;owe 40 h=9;owe 2 h>8;owe 3 h<9"), 0);
        dueShows("3: BEAST and more", x, 0, 16, 26, 36);
        dueShows("3: CALF: no horns at all", x, 1, 16, 0, 36);
        dueShows("3: LAME: one less of all", x, 2, 14, 26, 36);
        dueShows("3: PROUD: twice all tails", x, 3, 16, 27, 72);
        dueShows("3: TOLD: its row alone", x, 4, 15, 26, 0);
        due("3: owes", x.of(0, 6), 49);
        due("3: toll", x.of(0, 5), 7);

        x = new FeetHorns();
        x.sort(5, 3, 1, 1, 1, 7);
        fence(x, "see 10 h<3");
        x.month(3);
        dueShows("3: HIDDEN: nothing at all", x, 0, 0, 0, 0);
    }

    private static void herd() {
        FeetHorns x = cowAndGoose();
        due("4: was 0", x.herd(0, 0, 12), 0);
        due("4: was 12", x.herd(0, 0, 0), 12);
        due("4: was 0 again", x.herd(0, 0, 3), 0);
        due("4: second was 0", x.herd(0, 1, 4), 0);
        due("4: second was 4", x.herd(0, 1, 4), 4);
        due("4: the other sort", x.of(1, 7) + x.of(1, 8), 0);
        due("4: no such sort", x.herd(2, 0, 0), -1);
        due("4: no such herd", x.herd(0, 2, 0), -1);
        due("4: none ahead of bad", x.herd(0, 2, 13), -1);
        due("4: 13", x.herd(0, 0, 13), -2);
        for (int far : FAR) {
            due("4: sort " + far, x.herd(far, 0, 0), -1);
            due("4: which " + far, x.herd(0, far, 0), -1);
            due("4: n " + far, x.herd(0, 1, far), -2);
        }
        due("4: as it was", x.of(0, 7), 3);
        due("4: second as it was", x.of(0, 8), 4);
    }

    private static void row() {
        FeetHorns x = new FeetHorns();
        for (int kind : new int[] {6, 3, 0, 5, 6}) {
            x.sort(kind, 0, 0, 0, 0, 0);
        }
        due("5: was 0", x.row(0, 0, 9), 0);
        due("5: was 9", x.row(0, 0, 1), 9);
        due("5: other part", x.row(0, 1, 2), 0);
        due("5: last part", x.row(0, 2, 3), 0);
        due("5: other sort", x.row(4, 2, 3), 0);
        for (int s = 1; s < 4; s++) {
            due("5: kind of " + s, x.row(s, 0, 0), -3);
        }
        due("5: bad ahead of state", x.row(1, 0, 10), -2);
        due("5: none ahead of bad", x.row(0, 3, 10), -1);
        due("5: no such sort", x.row(5, 0, 0), -1);
        due("5: 10", x.row(0, 0, 10), -2);
        for (int far : FAR) {
            due("5: sort " + far, x.row(far, 0, 0), -1);
            due("5: part " + far, x.row(0, far, 0), -1);
            due("5: n " + far, x.row(0, 0, far), -2);
        }
        due("5: as it was", x.row(0, 0, 1), 1);
    }

    private static void month() {
        FeetHorns x = new FeetHorns();
        due("6: was 0", x.month(11), 0);
        due("6: 12", x.month(12), -2);
        for (int far : FAR) {
            due("6: " + far, x.month(far), -2);
        }
        due("6: was 11", x.month(0), 11);
        due("6: was 0 again", x.month(0), 0);
    }

    private static void tell() {
        FeetHorns x = new FeetHorns();
        due("7: 0", x.tell(0, 0), 1);
        due("7: 999", x.tell(1, 999), 1);
        due("7: told 0", x.told(30), 0);
        due("7: told 999", x.told(31), 999);
        due("7: nothing told", x.told(32), -5);
        due("7: 1000", x.tell(1, 1000), -2);
        due("7: -2", x.tell(1, -2), -2);
        due("7: hole 3", x.tell(3, 0), -1);
        due("7: none ahead of bad", x.tell(-1, 1000), -1);
        due("7: hole far", x.tell(MIN, 0) + x.tell(MAX, 0), -2);
        due("7: n far", x.tell(0, MIN) + x.tell(0, MAX), -4);
        due("7: as it was", x.told(31), 999);
        due("7: nothing", x.tell(1, -1), 1);
        due("7: nothing now", x.told(31), -5);
    }

    private static void feed() {
        FeetHorns x = new FeetHorns();
        due("8: 128", x.feed(128), -2);
        for (int far : FAR) {
            due("8: " + far, x.feed(far), -2);
        }
        for (int i = 1; i <= 100; i++) {
            due("8: sign " + i, x.feed(i % 2 * 127), i);
        }
        due("8: 101st", x.feed(0), -4);
        due("8: bad ahead of full", x.feed(128), -2);
        due("8: bytes", x.count(3), 100);
    }

    private static void fenceFaults() {
        String[] texts = {
            "", "x", "o", "ow", "owx", "owe", "owe5", "owe x", "owe 5", "owe 123 s=1", "owe 5;", "owe 5  s=1", "owe 5 x=1",
            "owe 5 s", "owe 5 s!1", "owe 5 s=", "owe 5 s=x", "owe 5 s=1 ", "owe 5 s=123", "owe 5 s=1)", "owe 5 (s=1",
            "owe 5 (s=1;", "owe 5 ()", "owe 5 s=1&", "owe 5 s=1&|", "owe 5 s=1|", "owe 5 s=1!s=1", "owe 5 s=1;", "owe 5 s=1;;",
            "sow 5 s=1", "see 5 S=1", "most", "most ", "most 1 s=1", "most 1;", " most 1", "mos 1", "MOST 1",
            "owe 5 !!!!!s=1", "owe 5 (((((s=1)))))", "owe 5 !(!(!s=1))", "owe 5 !(!((s=1)))", "owe 5 (s=1)&!!!!(s=1)",
            "owe 5 s==1", "owe 5 s=-1", "owe 5 s<=1", "owe 5 !", "owe 5 !;", "owe -5 s=1", "owe  5 s=1", "owe 5\ts=1",
        };
        int[] places = {
            0, 0, 1, 2, 2, 3, 3, 4, 5, 6, 5, 6, 6,
            7, 7, 8, 8, 9, 10, 9, 10,
            10, 7, 10, 10, 10, 9, 10, 10,
            1, 6, 4, 5, 6, 7, 0, 3, 0,
            10, 10, 10, 10, 16,
            8, 8, 8, 7, 7, 4, 4, 5,
        };
        FeetHorns x = new FeetHorns();
        for (int i = 0; i < texts.length; i++) {
            due("9: fault in \"" + texts[i] + "\"", fence(x, texts[i]), -10 - places[i]);
            due("9: the text is empty then", x.count(3), 0);
        }
        due("9: no fence came", x.count(1), 0);

        String nine = "most 1;most 1;most 1;most 1;most 1;most 1;most 1;most 1;most 1";
        due("9: eleven clauses", fence(x, nine + ";most 1;most 1"), -10 - 69);
        due("9: a ; behind ten", fence(x, nine + ";most 1;"), -10 - 69);
        due("9: ten clauses", fence(x, nine + ";most 1"), 0);
        String longest = "owe 55 s=1";
        while (longest.length() < 100) {
            longest += "&s=01";
        }
        due("9: a hundred bytes", fence(x, longest), 1);
        due("9: a hundred bytes that end too early", fence(x, "owe 5 s=01" + longest.substring(10, 99) + "&"), -10 - 100);
    }

    private static void fenceHolds() {
        FeetHorns x = cowAndGoose();
        due("9: first", fence(x, "owe 1 s=0"), 0);
        due("9: the first holds", x.of(0, 6), 6);
        due("9: second", fence(x, "owe 2 s=0"), 1);
        due("9: the newest holds", x.of(0, 6), 7);
        due("9: a fault", fence(x, "owe 3 s=0;"), -20);
        due("9: that which held holds", x.of(0, 6), 7);
        due("9: a fault behind much that was right", fence(x, "owe 1 s=0|s=1;see 9 s=0;most 2;;"), -10 - 31);
        due("9: that which held holds again", x.of(0, 6) + x.of(0, 10) + x.told(0), 7 + 4 + 8);
        for (int i = 2; i < 6; i++) {
            due("9: number", fence(x, "owe 9 s=1"), i);
            due("9: nothing of the faulty ones", x.of(0, 6) + x.of(0, 10) + x.told(0), 5 + 4 + 8);
            due("9: it holds", x.of(1, 6), 12);
        }
        feedAll(x, "owe 3 s=0");
        due("9: seventh", x.fence(), -4);
        due("9: its text stays", x.count(3), 9);
        due("9: the sixth holds", x.of(1, 6), 12);
        feedAll(x, ";");
        due("9: full ahead of a fault", x.fence(), -4);
    }

    /** An expression is true of the sorts named: of these alone owe 1 holds. */
    private static void dueTrue(String expression, String sorts) {
        FeetHorns x = new FeetHorns();
        x.sort(0, 5, 3, 2, 1, 0);
        x.sort(3, 0, 4, 2, 1, 0);
        x.sort(6, 9, 9, 0, 0, 0);
        x.month(10);
        due("9: fence of " + expression, fence(x, "owe 1 " + expression), 0);
        for (int s = 0; s < 3; s++) {
            due("9: " + expression + " of " + s, x.of(s, 6), sorts.indexOf((char) ('0' + s)) >= 0 ? 1 : 0);
        }
    }

    private static void fenceMeans() {
        String[] rows = {
            "s<1 0", "s=1 1", "s>0 12", "k=0 0", "k>3 2", "k<6 01", "v=5 0", "v<5 1", "v>5 2", "f=4 1", "f>4 2", "f<4 0",
            "m=10 012", "m<10 ", "m>9 012", "h=9 012", "h<9 ", "h>8 012", "s=01 1", "s=00 0", "s<99 012",
            "!s=1 02", "!!s=1 1", "!!!!s=1 1", "(s=1) 1", "((((s=1)))) 1", "!(s=1) 02", "!(s=1|s=2) 0",
            // & binds closer than |, ! closest
            "s=0|s=1&v=9 0", "v=9&s=1|s=0 0", "(s=0|s=2)&v=9 2", "v=9&(s=1|s=2) 2", "!s=0&s=0 ", "!(s=0&s=1) 012",
            "!s=0|s=0 012", "s=0|s=1|s=2 012", "s<2&s>0&k=3 1", "s=0&v=5|s=1&v=5|s=2 02", "!s=0&!s=1 2", "!(!s=0&!s=1) 01",
            "s=0&(v=5|v=9)&(f=3|f=4) 0", "s=2|!(k=0|k=3)|s=0 02",
        };
        for (String row : rows) {
            int gap = row.indexOf(' ');
            dueTrue(row.substring(0, gap), row.substring(gap + 1));
        }
        FeetHorns x = cowAndGoose();
        fence(x, "owe 10 s=0;owe 07 s<2;owe 99 s=3;see 3 s=1;see 4 s=1&h=2");
        due("9: owes, together", x.of(0, 6), 22);
        due("9: owes less", x.of(1, 6), 10);
        dueShows("9: no more", x, 0, 4, 2, 1);
        dueShows("9: more, together", x, 1, 5, 3, 8);
    }

    private static void most() {
        FeetHorns x = new FeetHorns();
        due("9: most without", x.told(0), 8);
        fence(x, "most 3");
        due("9: most 3", x.told(0), 3);
        fence(x, "most 3;most 05");
        due("9: the last one's", x.told(0), 5);
        fence(x, "most 3;most 99;owe 1 s=0");
        due("9: 9 at most", x.told(0), 9);
        fence(x, "most 10;most 0");
        due("9: most 0", x.told(0), 0);
        fence(x, "most 99;most 4");
        due("9: the last one's, though less", x.told(0), 4);
        fence(x, "owe 5 s=0");
        due("9: 8 without a most", x.told(0), 8);
    }

    private static void told() {
        FeetHorns x = cowAndGoose();
        x.herd(0, 0, 2);
        x.herd(1, 0, 12);
        x.herd(0, 1, 1);
        x.herd(1, 1, 3);
        x.month(7);
        tellAll(x, 10, -1, 999);
        int[] whats = {0, 1, 2, 3, 10, 11, 12, 20, 21, 22, 30, 31, 32};
        int[] dues = {8, 7, 46, 14, 32, 4, 14, 10, 2, 4, 10, -5, 999};
        for (int i = 0; i < whats.length; i++) {
            due("10: what " + whats[i], x.told(whats[i]), dues[i]);
        }
        for (int what : new int[] {-1, 4, 9, 13, 19, 23, 29, 33, MIN, MAX, MIN + 9}) {
            due("10: what " + what, x.told(what), -1001);
        }
        fence(x, "owe 10 s=1;most 2");
        due("10: toll by what they owe", x.told(2), 166);
        due("10: toll of the second", x.told(3), 44);
    }

    // ---- 11 to 15

    private static void fits() {
        FeetHorns x = cowAndGoose();
        due("11: all of eight at most", x.fits(0), 45);
        due("11: none is the cheapest", x.fits(1), 0);
        due("11: eight cows", x.fits(2), 40);
        tellAll(x, 8, -1, -1);
        // 0 and 4: 12; 1 and 2: 11; 2 and 0: 10
        due("11: of eight feet", x.fits(0), 3);
        due("11: least", x.fits(1), 10);
        due("11: greatest", x.fits(2), 12);
        due("11: cows", x.fits(10), 2);
        due("11: geese", x.fits(11), 0);
        x.tell(2, 3);
        due("11: of three tails", x.fits(0), 1);
        due("11: one cow", x.fits(10), 1);
        due("11: two geese", x.fits(11), 2);
        x.tell(1, 4);
        due("11: none", x.fits(0), 0);
        for (int what : new int[] {1, 2, 10, 11}) {
            due("11: none, " + what, x.fits(what), -5);
        }
        for (int what : new int[] {-1, 3, 9, 12, MIN, MAX, MIN + 9}) {
            due("11: what " + what, x.fits(what), -1001);
        }
        x = new FeetHorns();
        due("11: no sorts: one herd", x.fits(0), 1);
        due("11: no sorts: least", x.fits(1), 0);
        due("11: no sorts: greatest", x.fits(2), 0);
        x.sort(0, 0, 1, 0, 0, 4);
        x.sort(0, 0, 1, 0, 0, 2);
        x.sort(0, 0, 1, 0, 0, 2);
        x.tell(0, 3);
        due("11: ten of three", x.fits(0), 10);
        due("11: the least of equals", x.fits(1), 6);
        due("11: first as a row: 0", x.fits(10), 0);
        due("11: first as a row: none of the second", x.fits(11), 0);
        due("11: first as a row: all of the third", x.fits(12), 3);
        fence(x, "most 2");
        due("11: three are too many", x.fits(0), 0);
        x.herd(0, 0, 12);
        due("11: the herd may have more", x.told(10), 12);
    }

    private static void bars() {
        FeetHorns x = new FeetHorns();
        due("12: nothing told", x.bars(), -5);
        x.sort(0, 0, 4, 6, 0, 0);
        due("12: still nothing told", x.bars(), -5);
        x.tell(0, 9);
        due("12: odd feet", x.bars(), 200);
        x.tell(0, 6);
        due("12: by four", x.bars(), 400);
        x.tell(0, 400);
        due("12: so many can be", x.bars(), -5);
        x.tell(1, 10);
        due("12: by three", x.bars(), 301);
        x.tell(0, 2);
        due("12: the least divisor ahead of the first hole", x.bars(), 301);
        x.tell(0, 1);
        x.tell(1, 1);
        due("12: the first hole", x.bars(), 200);
        tellAll(x, -1, -1, 1);
        due("12: no tails at all", x.bars(), 202);
        x.tell(2, 30);
        due("12: 30 leaves none by 2 and 3", x.bars(), 402);
        x.tell(2, 0);
        due("12: 0 is never barred", x.bars(), -5);
        x.sort(0, 0, 3, 0, 0, 0);
        tellAll(x, 1, -1, -1);
        due("12: 4 and 3 leave all", x.bars(), -5);

        x = new FeetHorns();
        x.tell(0, 7);
        due("12: no sorts", x.bars(), 200);
        x.sort(0, 0, 0, 0, 0, 0);
        fence(x, "see 29 h=0;see 31 h=1");
        due("12: 29 is looked at", x.bars(), 2900);
        tellAll(x, -1, 7, -1);
        due("12: 31 is not", x.bars(), -5);
        fence(x, "see 30 h=0");
        tellAll(x, 6, -1, -1);
        due("12: 6 can be by 4, as 30 leaves 2, but not by 5", x.bars(), 500);
        tellAll(x, 990, -1, -1);
        due("12: 33 times 30", x.bars(), -5);
    }

    private static void hole() {
        FeetHorns x = cowAndGoose();
        x.herd(0, 0, 2);
        x.herd(1, 0, 1);
        // feet 10: 0 5, 1 3, 2 1; horns 4: 2 and 0 to 6; tails 3: 0 3, 1 2, 2 1, 3 0
        due("13: feet", x.hole(0), 0);
        due("13: three fit", x.hole(1), 3);
        x.tell(0, 10);
        due("13: horns, as tails", x.hole(0), 1);
        due("13: one fits", x.hole(1), 1);
        x.tell(0, 1);
        due("13: none fits by any: the first", x.hole(0), 1);
        due("13: none fits", x.hole(1), 0);
        x.tell(1, 0);
        due("13: tails alone are left", x.hole(0), 2);
        x.tell(2, 0);
        due("13: all are told", x.hole(0), -5);
        due("13: all are told, how many", x.hole(1), -5);
        due("13: what 2, all told", x.hole(2), -1);
        for (int far : FAR) {
            due("13: what " + far, x.hole(far), -1);
        }
        x = cowAndGoose();
        x.herd(0, 0, 12);
        due("13: the herd may have too many", x.hole(1), 0);
        x = new FeetHorns();
        x.sort(0, 0, 1, 1, 1, 0);
        x.sort(0, 0, 1, 1, 0, 0);
        x.herd(1, 0, 2);
        due("13: tails settle no more: feet", x.hole(0), 0);
        x.herd(0, 0, 8);
        x.herd(1, 0, 0);
        due("13: tails settle most", x.hole(0), 2);
        due("13: tails leave one", x.hole(1), 1);
    }

    private static void alike() {
        FeetHorns x = cowAndGoose();
        x.sort(0, 0, 6, 2, 2, 7);
        x.herd(0, 0, 2);
        x.herd(1, 0, 2);
        // a cow and a goose look like one of the third: 8 against 7
        due("14: toll", x.alike(0), 14);
        due("14: no cows", x.alike(10), 0);
        due("14: no geese", x.alike(11), 0);
        due("14: two of the third", x.alike(12), 2);
        x.tell(0, 1);
        due("14: what is told does not matter", x.alike(0), 14);
        for (int what : new int[] {-1, 1, 9, 13, MIN, MAX, MIN + 9}) {
            due("14: what " + what, x.alike(what), -1001);
        }
        fence(x, "owe 1 k=0;most 2");
        due("14: by what they owe", x.alike(0), 16);
        fence(x, "owe 1 s=2");
        due("14: of equals the first as a row", x.alike(10), 0);
        fence(x, "owe 2 s=2");
        due("14: the herd itself", x.alike(10), 2);
        fence(x, "most 1");
        due("14: there is none", x.alike(0), -5);
        due("14: there is none of a sort", x.alike(10), -5);
        due("14: what 13, none", x.alike(13), -1001);
        x = new FeetHorns();
        due("14: no sorts", x.alike(0), 0);
        due("14: no such sort", x.alike(10), -1001);
    }

    private static void missed() {
        FeetHorns x = cowAndGoose();
        due("15: nothing told", x.missed(), 0);
        tellAll(x, 9, -1, -1);
        due("15: ten feet", x.missed(), 1);
        tellAll(x, 8, -1, -1);
        due("15: eight feet, ahead of herds that have more", x.missed(), 0);
        tellAll(x, 9, 3, -1);
        due("15: two cows and a goose", x.missed(), 2);
        tellAll(x, 9, 3, 6);
        // two cows and four geese: 16 feet, 4 horns, 6 tails
        due("15: together", x.missed(), 8);
        tellAll(x, 32, 16, 8);
        due("15: all eight", x.missed(), 0);
        tellAll(x, 33, -1, -1);
        due("15: none", x.missed(), -5);
        fence(x, "most 9");
        due("15: nine", x.missed(), 1);
        due("15: no sorts", new FeetHorns().missed(), 0);
    }

    // ---- 16 to 19

    private static void mix() {
        FeetHorns x = cowAndGoose();
        x.sort(0, 0, 6, 2, 2, 7);
        due("16: none", x.mix(), 0);
        x.herd(0, 0, 1);
        x.herd(1, 1, 1);
        due("16: one of the third saves one", x.mix(), 1);
        fence(x, "owe 5 s=2");
        due("16: nothing is saved", x.mix(), 0);
        x.herd(0, 0, 8);
        x.herd(0, 1, 8);
        x.herd(1, 1, 0);
        due("16: sixteen of eight at most", x.mix(), 0);
        x.herd(0, 1, 9);
        due("16: seventeen", x.mix(), -100001);
        fence(x, "most 99");
        due("16: seventeen of nine at most", x.mix(), 0);
        x.herd(0, 1, 11);
        due("16: nineteen of nine at most", x.mix(), -100001);

        x = cowAndGoose();
        x.sort(0, 0, 2, 0, 1, 1);
        x.herd(2, 1, 2);
        fence(x, "most 1");
        due("16: just two", x.mix(), 0);
        // two of the first look like one of the second, but pay nothing
        x = new FeetHorns();
        x.sort(0, 0, 4, 0, 1, 0);
        x.sort(0, 0, 8, 0, 2, 9);
        x.herd(0, 0, 2);
        fence(x, "most 0");
        due("16: none of none", x.mix(), -100001);
        fence(x, "most 1;owe 0 s=0");
        due("16: the two themselves", x.mix(), 0);
        x.herd(0, 0, 4);
        due("16: below 0", x.mix(), -18);
    }

    private static void prices() {
        FeetHorns x = new FeetHorns();
        due("17: no sorts", x.prices(0), 0);
        for (int h = 1; h < 4; h++) {
            due("17: no sorts, price", x.prices(h), 0);
        }
        x.sort(0, 0, 4, 2, 1, 13);
        x.sort(0, 0, 2, 0, 1, 5);
        due("17: none in the herd", x.prices(0), 0);
        due("17: of several the first", x.prices(1) + x.prices(2) + x.prices(3), 0);
        x.herd(0, 0, 1);
        // all 13: 0 2 9 has 9 tails, too many for the second; 0 4 5, 0 5 3, 0 6 1, 1 ..
        due("17: all that the first owes", x.prices(0), 13);
        due("17: foot", x.prices(1), 0);
        due("17: horn", x.prices(2), 4);
        due("17: tail", x.prices(3), 5);
        x.herd(1, 0, 2);
        due("17: both pay all", x.prices(0), 23);
        due("17: both: foot", x.prices(1), 0);
        x.herd(0, 0, 0);
        due("17: the second pays all", x.prices(0), 10);
        due("17: the second: horn", x.prices(2), 0);
        due("17: the second: tail", x.prices(3), 5);
        fence(x, "owe 95 s<2");
        x.herd(0, 0, 1);
        due("17: nine at most", x.prices(0), 63 + 54);
        due("17: nine: foot", x.prices(1), 9);
        due("17: nine: horn", x.prices(2), 9);
        due("17: nine: tail", x.prices(3), 9);
        for (int what : new int[] {-1, 4, MIN, MAX}) {
            due("17: what " + what, x.prices(what), -1);
        }
        x.sort(0, 0, 1, 1, 1, 0);
        due("17: a sort that is not in the herd holds prices down", x.prices(0), 0);
        x = new FeetHorns();
        x.sort(0, 0, 3, 2, 1, 1);
        x.herd(0, 0, 12);
        due("17: the last price alone", x.prices(0), 12);
        due("17: is 1", x.prices(3), 1);
    }

    private static void hid() {
        FeetHorns x = cowAndGoose();
        due("18: none to leave out", x.hid(), -5);
        x.herd(1, 0, 3);
        due("18: nothing told: the first there is", x.hid(), 101);
        x.herd(0, 0, 2);
        due("18: nothing told: the first", x.hid(), 1);
        tellAll(x, 10, 4, 3);
        due("18: two geese", x.hid(), 102);
        tellAll(x, 8, 4, -1);
        due("18: three geese, by what is told", x.hid(), 103);
        tellAll(x, 6, -1, -1);
        due("18: two cows", x.hid(), 2);
        tellAll(x, 10, -1, -1);
        due("18: a cow ahead of two geese", x.hid(), 1);
        tellAll(x, 14, -1, -1);
        due("18: none left out is not asked", x.hid(), -5);
        tellAll(x, 6, 4, 1);
        due("18: no more than there are", x.hid(), -5);
    }

    private static void months() {
        FeetHorns x = new FeetHorns();
        due("19: nothing told", x.months(), 4095);
        x.sort(2, 0, 4, 2, 1, 0);
        x.herd(0, 0, 1);
        x.tell(1, 2);
        due("19: a calf's horns", x.months(), 4095 - 31);
        x.tell(1, 0);
        due("19: a calf without", x.months(), 31);
        x.tell(1, 1);
        due("19: in none", x.months(), 0);
        fence(x, "see 1 m>9&h=0");
        tellAll(x, 5, -1, -1);
        due("19: by the fence", x.months(), 3 << 10);
        due("19: the month stays", x.told(1), 0);
        x = new FeetHorns();
        x.sort(5, 6, 4, 2, 1, 0);
        x.sort(6, 0, 0, 0, 0, 0);
        x.herd(0, 0, 1);
        x.tell(0, 0);
        due("19: hidden in one", x.months(), 1 << 6);
        x.herd(0, 0, 0);
        x.herd(1, 0, 2);
        x.row(1, 1, 4);
        tellAll(x, -1, -1, 8);
        due("19: by its row", x.months(), 1 << 1 | 1 << 4 | 1 << 7 | 1 << 10);
    }

    // ---- 20 to 25

    private static void odds() {
        FeetHorns x = cowAndGoose();
        due("20: above: 36 of 45", x.odds(0, 0), 4);
        due("20: below", x.odds(0, 1), 5);
        x.tell(0, 8);
        due("20: two of three", x.odds(0, 0), 2);
        due("20: of three", x.odds(1, 1), 3);
        x.tell(1, 0);
        due("20: never: above", x.odds(0, 0), 0);
        due("20: never: below", x.odds(0, 1), 1);
        due("20: always: above", x.odds(1, 0), 1);
        due("20: always: below", x.odds(1, 1), 1);
        due("20: part 2", x.odds(0, 2), NO);
        due("20: no such sort", x.odds(2, 0), NO);
        for (int far : FAR) {
            due("20: part " + far, x.odds(0, far), NO);
            due("20: sort " + far, x.odds(far, 0), NO);
        }
        x.tell(1, 1);
        due("20: none fits", x.odds(0, 0), NO);
        due("20: none fits, below", x.odds(0, 1), NO);
    }

    private static void mean() {
        FeetHorns x = cowAndGoose();
        due("21: above: 120 of 45", x.mean(0, 0), 8);
        due("21: below", x.mean(0, 1), 3);
        x.tell(0, 8);
        due("21: 0, 1, 2 cows: above", x.mean(0, 0), 1);
        due("21: 0, 1, 2 cows: below", x.mean(0, 1), 1);
        due("21: 4, 2, 0 geese", x.mean(1, 0), 2);
        x.tell(1, 0);
        due("21: no cows: above", x.mean(0, 0), 0);
        due("21: no cows: below", x.mean(0, 1), 1);
        due("21: part 2", x.mean(0, 2), NO);
        due("21: no such sort", x.mean(2, 0), NO);
        for (int far : FAR) {
            due("21: part " + far, x.mean(0, far), NO);
            due("21: sort " + far, x.mean(far, 0), NO);
        }
        x.tell(1, 1);
        due("21: none fits", x.mean(0, 0), NO);
        due("21: none fits, below", x.mean(0, 1), NO);
    }

    private static void book() {
        FeetHorns x = new FeetHorns();
        due("22: empty", x.book(-1, -7), 0);
        due("22: hole 3", x.book(3, 0), -1);
        due("22: none ahead of bad", x.book(-2, 1000), -1);
        due("22: far", x.book(MIN, 0) + x.book(MAX, 0), -2);
        due("22: 1000", x.book(0, 1000), -2);
        due("22: -1", x.book(0, -1), -2);
        for (int i = 1; i <= 12; i++) {
            due("22: row " + i, x.book(i % 3, 999 * (i % 2)), i);
        }
        due("22: 13th", x.book(0, 0), -4);
        due("22: bad ahead of full", x.book(0, 1000), -2);
        due("22: none ahead of full", x.book(3, 0), -1);
        due("22: rows", x.count(2), 12);
        due("22: emptied", x.book(-1, 5), 0);
        due("22: no rows", x.count(2), 0);
        due("22: again", x.book(2, 1), 1);
    }

    private static void looked() {
        FeetHorns x = cowAndGoose();
        x.herd(0, 0, 2);
        due("23: no rows", x.looked(), -5);
        x.book(0, 8);
        x.book(1, 4);
        x.book(2, 2);
        due("23: all are right", x.looked(), -5);
        x.book(2, 3);
        x.book(2, 4);
        due("23: the first that is not", x.looked(), 3);
        x.herd(1, 0, 1);
        due("23: feet are more now", x.looked(), 0);
        x.book(-1, 0);
        due("23: empty then", x.looked(), -5);
    }

    private static void judge() {
        FeetHorns x = new FeetHorns();
        x.tape(1, 2, 5);
        due("24: no sorts, nothing", x.judge(0, 0), -5);
        due("24: no sorts, no place", x.judge(0, -1), -5);
        due("24: no sorts, ints", x.judge(1, 0), -12);
        for (int i = 0; i < 3; i++) {
            x.sort(0, 0, 0, 0, 0, 0);
            x.herd(i, 0, i + 4);
        }
        due("24: nothing", x.judge(0, 0), 100);
        due("24: no such tape", x.judge(6, 0), -1);
        for (int far : FAR) {
            due("24: tape " + far, x.judge(far, 0), -1);
        }
        for (int sort = 1; sort < 5; sort++) {
            x.tape(1, sort, 5);
            due("24: a row of sort " + sort, x.judge(1, 0), -12);
        }
        x.tape(0, 0, 0);
        due("24: a row of none", x.judge(0, 0), 100);
        x.tape(0, 0, 5);
        for (int i = 0; i < 3; i++) {
            x.item(0, i + 1, i + 4);
        }
        due("24: as it is", x.judge(0, 1), -5);
        due("24: other from 0 on", x.judge(0, 0), 0);
        x.item(0, 3, 7);
        due("24: the third is otherwise", x.judge(0, 1), 2);
        x.item(0, 3, 4);
        x.item(0, 4, 5);
        due("24: ends behind two", x.judge(0, 3), 102);
        due("24: ends at once", x.judge(0, 5), 100);
        due("24: place -1", x.judge(0, -1), 100);
        due("24: place MAX", x.judge(0, MAX), 100);
        due("24: place MIN", x.judge(0, MIN), 100);
        x.herd(0, 0, 0);
        x.herd(1, 0, 0);
        x.tape(0, 0, 2);
        due("24: zeros", x.judge(0, 0), 102);
        x.item(0, 0, 256);
        due("24: as bytes", x.judge(0, 0), 102);
    }

    private static void imageAndUndo() {
        FeetHorns x = new FeetHorns();
        due("26: none", x.undo(), -3);
        due("25: no sorts", x.image(), 0);
        x.sort(0, 0, 0, 0, 0, 0);
        due("26: no sorts", x.undo(), 0);
        due("26: no sorts now", x.count(0), 0);
        due("26: none of it", x.of(0, 0), -1);

        x.sort(6, 1, 2, 3, 4, 5);
        x.row(0, 2, 6);
        x.herd(0, 0, 7);
        x.herd(0, 1, 8);
        x.month(2);
        tellAll(x, 1, -1, 3);
        x.book(0, 7);
        due("25: one sort", x.image(), 1);
        x.sort(6, 9, 9, 9, 9, 9);
        x.row(1, 2, 5);
        x.herd(1, 0, 3);
        x.herd(1, 1, 3);
        x.row(0, 2, 0);
        x.herd(0, 0, 0);
        x.herd(0, 1, 0);
        x.month(11);
        tellAll(x, -1, 2, 4);
        x.book(-1, 0);
        x.book(1, 5);
        x.book(1, 6);
        x.tape(0, 3, 1);
        x.item(0, 0, 77);
        x.feed('o');
        x.act(0, 0, 1);
        for (int i = 0; i < 2; i++) {
            due("26: one sort", x.undo(), 1);
            int[] of = {6, 1, 2, 3, 4, 5, 5, 7, 8, -1, 1, 3, 6};
            for (int what = 0; what < of.length; what++) {
                due("26: of " + what, x.of(0, what), of[what]);
            }
            due("26: second sort", x.of(1, 0), -1);
            due("26: told feet", x.told(30), 1);
            due("26: told horns", x.told(31), -5);
            due("26: told tails", x.told(32), 3);
            due("26: book", x.count(2), 1);
            due("26: book's row", x.looked(), -5);
            x.book(-1, 0);
            x.herd(0, 0, 1);
            due("26: month", x.month(5), 2);
            tellAll(x, 5, 5, 5);
        }
        due("26: a tape stays", x.read(0, 0), 77);
        due("26: the text stays", x.count(3), 1);
        due("26: the trace stays", x.trace(0), 71);
        due("26: the next sort has the next number", x.sort(6, 0, 0, 0, 0, 0), 1);
        due("26: none of it in the herd", x.of(1, 7) + x.of(1, 8), 0);
        due("26: its rows are new", x.row(1, 2, 1), 0);
        due("25: two sorts", x.image(), 2);
        due("26: two sorts", x.undo(), 2);
        due("26: the latest image", x.told(1), 5);
    }

    private static void undoAndFences() {
        FeetHorns x = new FeetHorns();
        x.image();
        fence(x, "most 1");
        x.undo();
        due("26: no fence holds", x.told(0), 8);
        due("26: the fences stay", x.count(1), 1);
        due("26: the next fence", fence(x, "most 2"), 1);
        x.image();
        fence(x, "most 3");
        due("26: the newest holds", x.told(0), 3);
        x.undo();
        due("26: that of the image holds", x.told(0), 2);
        for (int i = 3; i < 6; i++) {
            due("26: numbers go on", fence(x, "most 5"), i);
        }
        x.undo();
        feedAll(x, "most 6");
        due("26: six are full", x.fence(), -4);
        due("26: that of the image holds still", x.told(0), 2);
    }

    // ---- 27 to 34

    private static void act() {
        FeetHorns x = new FeetHorns();
        for (int kind = 0; kind < 5; kind++) {
            x.sort(kind, 7, 0, 0, 0, 0);
        }
        int[][] dues = {
            {10, 3, 6}, {11, 4 ^ 6, 2 * (4 ^ 6)}, {32, 25, 50}, {13, 6, 12 + (1 + 3 - 7)},
            {-14, (-15 - 7) ^ 6, 2 * ((-15 - 7) ^ 6)},
        };
        for (int s = 0; s < 5; s++) {
            for (int act = 0; act < 3; act++) {
                due("27: kind " + s + " act " + act, x.act(s, act, 10), dues[s][act]);
            }
        }
        due("27: wraps", x.act(1, 0, MAX), MIN);
        due("27: wraps twice", x.act(0, 2, MAX), 2 * (MAX - 7));
        due("27: no such sort", x.act(5, 0, 10), 0);
        due("27: no trace then", x.count(4), 0);
        x.act(0, 0, 1);
        due("27: no such act", x.act(0, 3, 10), 0);
        due("27: no trace then either", x.trace(0), -1);
        for (int far : FAR) {
            due("27: sort " + far, x.act(far, 0, 10), 0);
            due("27: act " + far, x.act(0, far, 10), 0);
        }

        x = new FeetHorns();
        x.sort(5, 3, 0, 0, 0, 0);
        x.sort(5, 3, 0, 0, 0, 0);
        x.sort(6, 3, 0, 0, 0, 0);
        due("27: HIDDEN goes", x.act(1, 0, 10), 31);
        due("27: HIDDEN shows", x.act(1, 1, 10), 28);
        due("27: HIDDEN tells", x.act(1, 2, 10), 2 * (9 * 3 + 1 - 3));
        due("27: TOLD goes", x.act(2, 0, 10), 12 ^ 3);
        due("27: TOLD shows", x.act(2, 1, 10), (12 ^ 3) - 3 + 4);
        due("27: TOLD tells", x.act(2, 2, 10), 2 * ((12 ^ 3) - 3 + 4) + (3 ^ 3) - 3 + 4);
    }

    private static void dueTrace(FeetHorns x, int sort, int act, int... bodies) {
        x.act(sort, act, 5);
        String what = "28: trace of " + sort + " " + act;
        due(what + ", how many", x.count(4), bodies.length);
        for (int i = 0; i < bodies.length; i++) {
            due(what + " at " + i, x.trace(i), bodies[i]);
        }
        due(what + ", behind", x.trace(bodies.length), -1);
    }

    private static void trace() {
        FeetHorns x = new FeetHorns();
        for (int kind : new int[] {1, 2, 3, 4, 6}) {
            x.sort(kind, 0, 0, 0, 0, 0);
        }
        due("28: at first", x.trace(0), -1);
        dueTrace(x, 0, 0, 10);
        dueTrace(x, 0, 1, 20, 11, 10);
        dueTrace(x, 0, 2, 12, 20, 11, 10);
        dueTrace(x, 1, 1, 11, 30, 10);
        dueTrace(x, 2, 2, 40, 12, 11, 10, 11, 10);
        dueTrace(x, 3, 0, 50, 10);
        dueTrace(x, 3, 2, 12, 51, 20, 11, 50, 10);
        dueTrace(x, 4, 0, 71, 10);
        dueTrace(x, 4, 1, 70, 11, 71, 10, 10);
        dueTrace(x, 4, 2, 40, 12, 70, 11, 71, 10, 10, 70, 11, 71, 10, 10);
        for (int i : new int[] {-1, 12, 19, 20, MIN, MAX}) {
            due("28: place " + i, x.trace(i), -1);
        }
        x = new FeetHorns();
        x.sort(5, 0, 0, 0, 0, 0);
        dueTrace(x, 0, 2, 60, 12, 11, 30, 10);
        x.act(1, 0, 0);
        due("28: none then", x.trace(0), -1);
    }

    private static void taken() {
        String[] takenFor = {"0", "01", "02", "03", "014", "025", "036"};
        for (int kind = 0; kind < 7; kind++) {
            FeetHorns x = new FeetHorns();
            x.sort(kind, 0, 0, 0, 0, 0);
            for (int k = 0; k < 7; k++) {
                boolean is = takenFor[kind].indexOf((char) ('0' + k)) >= 0;
                due("29: kind " + kind + " for " + k, x.taken(0, k), is ? kind : -12);
            }
        }
        FeetHorns x = new FeetHorns();
        due("29: no such sort", x.taken(0, 0), -11);
        due("29: k 7", x.taken(0, 7), -2);
        x.sort(0, 0, 0, 0, 0, 0);
        for (int far : FAR) {
            due("29: k " + far, x.taken(0, far), -2);
            due("29: sort " + far, x.taken(far, 0), -11);
        }
    }

    private static void count() {
        FeetHorns x = cowAndGoose();
        fence(x, "most 1");
        fence(x, "most 2");
        fence(x, "most 3");
        x.book(0, 0);
        feedAll(x, "see ");
        x.act(0, 2, 0);
        int[] dues = {2, 3, 1, 4, 3, -2};
        for (int what = 0; what < dues.length; what++) {
            due("30: what " + what, x.count(what), dues[what]);
        }
        for (int far : FAR) {
            due("30: what " + far, x.count(far), -2);
        }
    }

    private static void tape() {
        FeetHorns x = new FeetHorns();
        due("31: tape 6", x.tape(6, 0, 1), -1);
        due("31: none ahead of bad", x.tape(-1, 5, 1), -1);
        due("31: sort 5", x.tape(0, 5, 1), -2);
        due("31: sort -2", x.tape(0, -2, 1), -2);
        due("31: bad ahead of size", x.tape(0, 5, -1), -2);
        due("31: 61", x.tape(0, 0, 61), -2);
        due("31: -1", x.tape(0, 0, -1), -14);
        due("31: MIN", x.tape(0, 4, MIN), -14);
        due("31: MAX", x.tape(0, 4, MAX), -2);
        due("31: far", x.tape(MIN, 0, 0) + x.tape(MAX, 0, 0) + x.tape(0, MIN, 0) + x.tape(0, MAX, 0), -6);
        due("31: nothing came", x.read(0, 0), NO);
        due("31: 60", x.tape(0, 3, 60), 1);
        due("31: all 0", x.read(0, 59), 0);
        due("31: no more", x.read(0, 60), NO);
        due("31: a row of none", x.tape(5, 4, 0), 1);
        due("31: of none there is none", x.item(5, 0, 1), -13);
        x.item(0, 0, 5);
        due("31: refused", x.tape(0, 0, 61), -2);
        due("31: so it stays", x.read(0, 0), 5);
        due("31: again", x.tape(0, 3, 1), 1);
        due("31: all 0 again", x.read(0, 0), 0);
        due("31: nothing, whatever n", x.tape(0, -1, 99) + x.tape(0, -1, -99), 2);
        due("31: nothing there", x.item(0, 0, 1), -11);
        due("31: nothing to read", x.read(0, 0), NO);
    }

    private static void itemAndRead() {
        FeetHorns x = new FeetHorns();
        long[] puts = {0, 1, -1, 127, 128, 255, 256, 65535, 65536, 1L << 31, 1L << 32, Long.MIN_VALUE + 1, Long.MAX_VALUE};
        for (long v : puts) {
            long[] gots = {(byte) v, (short) v, (int) v, v, v == 0 ? 0 : 1};
            for (int sort = 0; sort < 5; sort++) {
                x.tape(sort, sort, 3);
                due("32: item", x.item(sort, 1, v), 1);
                due("33: sort " + sort + " of " + v, x.read(sort, 1), gots[sort]);
                due("33: the one ahead", x.read(sort, 0), 0);
                due("33: the one behind", x.read(sort, 2), 0);
            }
        }
        due("32: place 3", x.item(0, 3, 1), -13);
        due("32: nothing", x.item(5, -1, 1), -11);
        due("32: tape 6", x.item(6, -1, 1), -1);
        due("33: nothing", x.read(5, 0), NO);
        due("33: place 3", x.read(0, 3), NO);
        due("33: tape 6", x.read(6, 0), NO);
        for (int far : FAR) {
            due("32: place " + far, x.item(0, far, 1), -13);
            due("32: tape " + far, x.item(far, 0, 1), -1);
            due("33: place " + far, x.read(0, far), NO);
            due("33: tape " + far, x.read(far, 0), NO);
        }
    }

    private static FeetHorns fiveInts() {
        FeetHorns x = new FeetHorns();
        x.tape(0, 2, 5);
        x.tape(1, 2, 3);
        x.tape(2, 3, 5);
        for (int i = 0; i < 5; i++) {
            x.item(0, i, 10 + i);
        }
        return x;
    }

    private static void dueTape(String what, FeetHorns x, int tape, int... items) {
        for (int i = 0; i < items.length; i++) {
            due(what + " at " + i, x.read(tape, i), items[i]);
        }
    }

    private static void shift() {
        FeetHorns x = fiveInts();
        due("34: three", x.shift(0, 2, 1, 0, 3), 3);
        dueTape("34: came", x, 1, 12, 13, 14);
        dueTape("34: stay", x, 0, 10, 11, 12, 13, 14);
        due("34: up, the same", x.shift(0, 0, 0, 1, 4), 4);
        dueTape("34: up", x, 0, 10, 10, 11, 12, 13);
        x = fiveInts();
        due("34: down, the same", x.shift(0, 1, 0, 0, 4), 4);
        dueTape("34: down", x, 0, 11, 12, 13, 14, 14);
        due("34: none, at both ends", x.shift(0, 5, 1, 3, 0), 0);
        due("34: none, beyond one end", x.shift(0, 6, 1, 0, 0), -13);
        due("34: none, beyond the other's end", x.shift(0, 0, 1, 4, 0), -13);
        due("34: beyond one end", x.shift(0, 3, 1, 0, 3), -13);
        due("34: beyond the other's end", x.shift(0, 0, 1, 1, 3), -13);
        due("34: unlike sorts", x.shift(0, 9, 2, 0, 1), -12);
        due("34: nothing to take", x.shift(3, 9, 0, 0, 1), -11);
        due("34: nothing to give", x.shift(0, 9, 3, 0, 1), -11);
        due("34: no tape", x.shift(6, 0, 3, 0, 1), -1);
        due("34: no other tape", x.shift(3, 0, 6, 0, 1), -1);
        for (int far : FAR) {
            due("34: tape " + far, x.shift(far, 0, 0, 0, 1), -1);
            due("34: other " + far, x.shift(0, 0, far, 0, 1), -1);
            due("34: i " + far, x.shift(0, far, 1, 0, 1), -13);
            due("34: j " + far, x.shift(0, 0, 1, far, 1), -13);
            due("34: n " + far, x.shift(0, 1, 1, 1, far), -13);
            due("34: i and n " + far, x.shift(0, far, 1, 0, far), -13);
        }
        dueTape("34: refused, so it stays", x, 0, 11, 12, 13, 14, 14);
        dueTape("34: refused, so the other stays", x, 1, 0, 0, 0);
    }
}

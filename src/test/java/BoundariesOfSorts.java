/** Promises 1 to 10: each sentence that names a boundary, on both sides of it. */
public final class BoundariesOfSorts extends Sentences {
    public static void main(String[] args) {
        newObject();
        sort();
        of();
        shows();
        more();
        herdRowMonth();
        tell();
        feed();
        fenceClauses();
        fenceTests();
        fenceNesting();
        fenceFaults();
        fenceHolds();
        fenceMeans();
        told();
        end(1, 10);
    }

    // ---- 1

    private static void newObject() {
        nothingAtFirst();
        noHerdAtFirst();
        firstMonthAtFirst();
        nothingToldAtFirst();
        noSecondHerdAtFirst();
        rowOfZerosAtFirst();
        emptyTapesAtFirst();
        noImageAtFirst();
        noTraceAtFirst();
    }

    private static void nothingAtFirst() {
        sentence(1, "No SORTS, no FENCE.");
        FeetHorns x = new FeetHorns();
        due("sorts", x.count(0), 0);
        due("of sort 0", x.of(0, 0), -1);
        due("fences", x.count(1), 0);
        due("most", x.told(0), 8);
        due("rows of the book", x.count(2), 0);
        due("bytes of the text", x.count(3), 0);
        due("a sort", x.sort(HORNED, 0, 0, 0, 0, 0), 0);
        due("sorts then", x.count(0), 1);
        due("of sort 0 then", x.of(0, 0), HORNED);
        due("a fence", fence(x, "most 7"), 0);
        due("fences then", x.count(1), 1);
        due("most then", x.told(0), 7);
        FeetHorns other = new FeetHorns();
        due("another object has no sorts", other.count(0), 0);
        due("another object has no fence", other.count(1) + other.told(0), 8);
    }

    private static void noHerdAtFirst() {
        sentence(1, "N of them in THE HERD (0 .. 12; none at first)");
        FeetHorns x = ofOneFoot(5);
        for (int s = 0; s < 5; s++) {
            due("of sort " + s, x.of(s, 7), 0);
        }
        x.herd(4, 0, 1);
        due("then", x.of(4, 7), 1);
        due("of the one ahead", x.of(3, 7), 0);
    }

    private static void firstMonthAtFirst() {
        sentence(1, "MONTH: 0 .. 11 (0 at first).");
        FeetHorns x = new FeetHorns();
        due("at first", x.told(1), 0);
        x.month(1);
        due("then", x.told(1), 1);
    }

    private static void nothingToldAtFirst() {
        sentence(1, "TOLD by hand: a number (0 .. 999) for each HOLE, or nothing (at first).");
        FeetHorns x = new FeetHorns();
        for (int h = 0; h < 3; h++) {
            due("hole " + h, x.told(30 + h), -5);
            x.tell(h, 0);
            due("hole " + h + " then", x.told(30 + h), 0);
        }
    }

    private static void noSecondHerdAtFirst() {
        sentence(1, "a second HERD told by hand (at first none of any SORT)");
        FeetHorns x = ofOneFoot(5);
        for (int s = 0; s < 5; s++) {
            due("of sort " + s, x.of(s, 8), 0);
        }
        x.herd(0, 1, 1);
        due("then", x.of(0, 8), 1);
        due("of the one behind", x.of(1, 8), 0);
    }

    private static void rowOfZerosAtFirst() {
        sentence(1, "(three numbers 0 .. 9; 0 at first)");
        FeetHorns x = new FeetHorns();
        x.sort(TOLD, 1, 1, 1, 1, 1);
        for (int part = 0; part < 3; part++) {
            due("part " + part, x.row(0, part, part + 1), 0);
        }
        for (int part = 0; part < 3; part++) {
            due("part " + part + " then", x.row(0, part, 0), part + 1);
        }
    }

    private static void emptyTapesAtFirst() {
        sentence(1, "TAPES 0 .. 5 hold nothing (at first)");
        FeetHorns x = new FeetHorns();
        for (int t = 0; t < 6; t++) {
            due("tape " + t, x.item(t, 0, 1), -11);
            x.tape(t, 0, 1);
            due("tape " + t + " then", x.item(t, 0, 1), 1);
        }
        due("tape 6 is none", x.item(6, 0, 1), -1);
        due("tape -1 is none", x.item(-1, 0, 1), -1);
    }

    private static void noImageAtFirst() {
        sentence(1, "STATE: there is none.");
        FeetHorns x = new FeetHorns();
        due("at first", x.undo(), -3);
        x.image();
        due("then", x.undo(), 0);
    }

    private static void noTraceAtFirst() {
        sentence(1, "the numbers of the bodies that ran in the latest act(), as they began");
        FeetHorns x = ofOneFoot(1);
        due("at first", x.trace(0), -1);
        due("how many at first", x.count(4), 0);
        x.act(0, 0, 0);
        due("then", x.trace(0), 10);
        due("how many then", x.count(4), 1);
    }

    // ---- 2

    private static void sort() {
        numbersOfSorts();
        kindsOfSorts();
        traitsOfSorts();
        sixthSort();
        refusalsOfSortInOrder();
    }

    private static void numbersOfSorts() {
        sentence(2, "SORTS 0 .. 4, as they come");
        FeetHorns x = new FeetHorns();
        for (int s = 0; s < 5; s++) {
            due("ahead of it", x.of(s, 1), -1);
            due("its number", x.sort(BEAST, 9 - s, 0, 0, 0, 0), s);
            due("its v", x.of(s, 1), 9 - s);
        }
        due("sort 5", x.of(5, 1), -1);
        due("sort 0 still", x.of(0, 1), 9);
    }

    private static void kindsOfSorts() {
        sentence(2, "NONE: kind;");
        for (int kind = 0; kind < 7; kind++) {
            FeetHorns x = new FeetHorns();
            due("kind " + kind, x.sort(kind, 0, 0, 0, 0, 0), 0);
            due("it is of kind " + kind, x.of(0, 0), kind);
        }
        for (int kind : new int[] {-1, 7, MIN, MAX}) {
            FeetHorns x = new FeetHorns();
            due("kind " + kind, x.sort(kind, 0, 0, 0, 0, 0), -1);
            due("no sort came", x.count(0), 0);
        }
    }

    /** v, feet, horns, tails, toll by their places. */
    private static int sortWith(FeetHorns x, int place, int n) {
        int[] traits = new int[5];
        traits[place] = n;
        return x.sort(BEAST, traits[0], traits[1], traits[2], traits[3], traits[4]);
    }

    private static void traitsOfSorts() {
        sentence(2, "with a number v (0 .. 9), FEET, HORNS, TAILS (0 .. 9 each), a TOLL (0 .. 99)");
        for (int place = 0; place < 5; place++) {
            int greatest = place == 4 ? 99 : 9;
            for (int n : new int[] {0, 1, greatest - 1, greatest}) {
                FeetHorns x = new FeetHorns();
                due("trait " + place + " of " + n, sortWith(x, place, n), 0);
                for (int other = 0; other < 5; other++) {
                    due("trait " + other + " then", x.of(0, 1 + other), other == place ? n : 0);
                }
            }
            for (int n : new int[] {-1, greatest + 1, MIN, MAX}) {
                FeetHorns x = new FeetHorns();
                due("trait " + place + " of " + n, sortWith(x, place, n), -2);
                due("no sort came", x.count(0), 0);
            }
        }
    }

    private static void sixthSort() {
        sentence(2, "FULL: 5.");
        FeetHorns x = ofOneFoot(3);
        x.image();
        due("fourth", x.sort(BEAST, 0, 0, 0, 0, 0), 3);
        due("fifth", x.sort(BEAST, 0, 0, 0, 0, 0), 4);
        due("sixth", x.sort(BEAST, 0, 0, 0, 0, 0), -4);
        due("five are there", x.count(0), 5);
        x.undo();
        due("fourth again", x.sort(BEAST, 0, 0, 0, 0, 0), 3);
        due("fifth again", x.sort(BEAST, 0, 0, 0, 0, 0), 4);
        due("sixth again", x.sort(BEAST, 0, 0, 0, 0, 0), -4);
    }

    private static void refusalsOfSortInOrder() {
        sentence(2, "the first that a call's words name");
        FeetHorns x = ofOneFoot(4);
        due("kind ahead of v", x.sort(7, 10, 0, 0, 0, 0), -1);
        due("v alone", x.sort(6, 10, 0, 0, 0, 0), -2);
        due("the fifth", x.sort(6, 9, 0, 0, 0, 0), 4);
        due("kind ahead of full", x.sort(7, 9, 0, 0, 0, 0), -1);
        due("toll ahead of full", x.sort(6, 9, 0, 0, 0, 100), -2);
        due("full alone", x.sort(6, 9, 0, 0, 0, 99), -4);
    }

    // ---- 3

    private static void of() {
        sentence(3, "Of a SORT what 0 KIND, 1 v, 2 FEET, 3 HORNS, 4 TAILS, 5 TOLL, 6 OWES, 7 N, 8 N in the second HERD, "
            + "10 and h SHOWS by HOLE h. NONE.");
        FeetHorns x = new FeetHorns();
        x.sort(HORNED, 3, 4, 5, 6, 78);
        x.herd(0, 0, 12);
        x.herd(0, 1, 11);
        int[] dues = {HORNED, 3, 4, 5, 6, 78, 78, 12, 11, -1, 4, 6, 6, -1};
        for (int what = 0; what < dues.length; what++) {
            due("what " + what, x.of(0, what), dues[what]);
        }
        for (int what : new int[] {-1, -2, -10, 14, 20, MIN, MIN + 9, MIN + 10, MAX}) {
            due("what " + what, x.of(0, what), -1);
        }
        for (int what = 0; what < dues.length; what++) {
            due("sort -1, what " + what, x.of(-1, what), -1);
            due("sort 1, what " + what, x.of(1, what), -1);
        }
        due("sort MIN", x.of(MIN, 0), -1);
        due("sort MAX", x.of(MAX, 0), -1);
        x.sort(CALF, 0, 0, 0, 0, 0);
        due("sort 1, once it is there", x.of(1, 0), CALF);
        due("sort 2", x.of(2, 0), -1);
    }

    private static void shows() {
        sentence(3, "HORNED: as BEAST, of horns 1 more, if v is odd.");
        for (int v = 0; v < 10; v++) {
            FeetHorns x = new FeetHorns();
            x.sort(HORNED, v, 4, 9, 1, 0);
            x.sort(BEAST, v, 4, 9, 1, 0);
            x.sort(PROUD, v, 4, 0, 1, 0);
            dueShows("HORNED, v " + v, x, 0, 4, v % 2 == 1 ? 10 : 9, 1);
            dueShows("BEAST, v " + v, x, 1, 4, 9, 1);
            due("PROUD, as HORNED, v " + v, x.of(2, 11), v % 2);
        }

        sentence(3, "CALF: as BEAST, but no horns, if MONTH is below 5.");
        FeetHorns x = new FeetHorns();
        x.sort(CALF, 0, 4, 2, 1, 0);
        x.sort(BEAST, 0, 4, 2, 1, 0);
        x.sort(HIDDEN, 9, 4, 2, 1, 0);
        for (int m : new int[] {0, 1, 4, 5, 6, 11}) {
            x.month(m);
            dueShows("CALF, month " + m, x, 0, 4, m < 5 ? 0 : 2, 1);
            dueShows("BEAST, month " + m, x, 1, 4, 2, 1);
            dueShows("HIDDEN, as CALF, month " + m, x, 2, 4, m < 5 ? 0 : 2, 1);
        }

        sentence(3, "LAME: as BEAST, of feet 1 less (0 at least).");
        for (int feet : new int[] {0, 1, 2, 9}) {
            x = new FeetHorns();
            x.sort(LAME, 1, feet, 2, 3, 0);
            x.sort(TOLD, 1, feet, 2, 3, 0);
            dueShows("LAME of feet " + feet, x, 0, feet == 0 ? 0 : feet - 1, 2, 3);
            due("TOLD, as LAME, of feet " + feet, x.of(1, 10), feet == 0 ? 0 : feet - 1);
            fence(x, "see 1 h=0");
            due("LAME of feet " + feet + " and one more", x.of(0, 10), feet);
        }

        sentence(3, "PROUD: as HORNED, of tails twice that.");
        for (int tails : new int[] {0, 1, 9}) {
            x = new FeetHorns();
            x.sort(PROUD, 0, 1, 2, tails, 0);
            dueShows("PROUD of tails " + tails, x, 0, 1, 2, 2 * tails);
            fence(x, "see 1 h=2");
            dueShows("PROUD of tails " + tails + " and one more", x, 0, 1, 2, 2 * tails + 2);
        }

        sentence(3, "HIDDEN: as CALF, but nothing by any HOLE, if MONTH is v.");
        for (int v = 0; v < 10; v++) {
            x = new FeetHorns();
            x.sort(HIDDEN, v, 4, 0, 1, 0);
            for (int m = 0; m < 12; m++) {
                x.month(m);
                dueShows("HIDDEN, v " + v + ", month " + m, x, 0, m == v ? 0 : 4, 0, m == v ? 0 : 1);
            }
        }

        sentence(3, "TOLD: as LAME, but of tails its ROW (three numbers 0 .. 9; 0 at first) at MONTH modulo 3.");
        x = new FeetHorns();
        x.sort(TOLD, 0, 4, 2, 1, 0);
        dueShows("a row of zeros", x, 0, 3, 2, 0);
        x.row(0, 0, 9);
        x.row(0, 1, 5);
        x.row(0, 2, 7);
        int[] rows = {9, 5, 7, 9, 5, 7, 9, 5, 7, 9, 5, 7};
        for (int m = 0; m < 12; m++) {
            x.month(m);
            dueShows("month " + m, x, 0, 3, 2, rows[m]);
        }
    }

    private static void more() {
        sentence(3, "OWES of a SORT: TOLL, and the n of all owe whose E holds, together.");
        FeetHorns x = new FeetHorns();
        x.sort(BEAST, 0, 0, 0, 0, 99);
        x.sort(BEAST, 1, 0, 0, 0, 0);
        x.sort(BEAST, 2, 0, 0, 0, 7);
        due("without a fence", x.of(0, 6), 99);
        fence(x, "owe 0 v=0;owe 99 v<1;owe 3 v<2;owe 40 v>2;see 50 v<9;most 7");
        due("three hold", x.of(0, 6), 99 + 0 + 99 + 3);
        due("one holds", x.of(1, 6), 3);
        due("none holds", x.of(2, 6), 7);
        due("the toll stays", x.of(0, 5), 99);

        sentence(3, "MORE of a SORT by a HOLE: the n of all see whose E holds, together.");
        due("nothing but see", x.of(2, 10), 50);
        fence(x, "see 1 h=0;see 20 h<2;see 99 h=0&v=0;owe 5 v=2");
        dueShows("three hold of feet", x, 0, 120, 20, 0);
        dueShows("two hold of feet", x, 1, 21, 20, 0);
        fence(x, "owe 5 v=2");
        dueShows("no see", x, 0, 0, 0, 0);

        sentence(3, "CALF: as BEAST, but no horns, if MONTH is below 5.");
        x = new FeetHorns();
        x.sort(CALF, 0, 0, 0, 0, 0);
        fence(x, "see 9 h<3");
        x.month(4);
        dueShows("no horns, though more is seen, month 4", x, 0, 9, 0, 9);
        x.month(5);
        dueShows("what more is seen, month 5", x, 0, 9, 9, 9);

        sentence(3, "HIDDEN: as CALF, but nothing by any HOLE, if MONTH is v.");
        x = new FeetHorns();
        x.sort(HIDDEN, 6, 0, 0, 0, 0);
        fence(x, "see 9 h<3");
        x.month(6);
        dueShows("nothing, though more is seen, month 6", x, 0, 0, 0, 0);
        x.month(7);
        dueShows("what more is seen, month 7", x, 0, 9, 9, 9);

        sentence(3, "TOLD: as LAME, but of tails its ROW");
        x = new FeetHorns();
        x.sort(TOLD, 0, 0, 0, 0, 0);
        x.sort(LAME, 0, 0, 0, 0, 0);
        fence(x, "see 9 h<3");
        dueShows("its row alone", x, 0, 8, 9, 0);
        dueShows("LAME shows what more is seen", x, 1, 8, 9, 9);
    }

    // ---- 4 to 6

    private static void herdRowMonth() {
        herd();
        row();
        month();
    }

    private static void herd() {
        sentence(4, "N of a SORT in THE HERD (which 0), in the second one (1) becomes n (0 .. 12): what it was. NONE; BAD.");
        FeetHorns x = ofOneFoot(2);
        for (int which = 0; which < 2; which++) {
            due("was none", x.herd(0, which, 12), 0);
            due("13", x.herd(0, which, 13), -2);
            due("-1", x.herd(0, which, -1), -2);
            due("far", x.herd(0, which, MIN) + x.herd(0, which, MAX), -4);
            due("was 12", x.herd(0, which, 0), 12);
            due("was 0", x.herd(0, which, 11), 0);
            due("was 11", x.herd(0, which, 1 + which), 11);
        }
        due("of the herd", x.of(0, 7), 1);
        due("of the second one", x.of(0, 8), 2);
        for (int which : new int[] {-1, 2, MIN, MAX}) {
            due("which " + which, x.herd(0, which, 0), -1);
            due("which " + which + " ahead of n", x.herd(0, which, 13), -1);
        }
        due("the last sort", x.herd(1, 0, 0), 0);
        for (int s : new int[] {-1, 2, MIN, MAX}) {
            due("sort " + s, x.herd(s, 0, 0), -1);
            due("sort " + s + " ahead of n", x.herd(s, 0, -1), -1);
        }
        due("of the herd still", x.of(0, 7), 1);
        due("of the second one still", x.of(0, 8), 2);
    }

    private static void row() {
        sentence(5, "BAD: n (0 .. 9);");
        FeetHorns x = new FeetHorns();
        x.sort(TOLD, 0, 0, 0, 0, 0);
        due("9", x.row(0, 0, 9), 0);
        due("10", x.row(0, 0, 10), -2);
        due("-1", x.row(0, 0, -1), -2);
        due("far", x.row(0, 0, MIN) + x.row(0, 0, MAX), -4);
        due("0", x.row(0, 0, 0), 9);
        due("8", x.row(0, 0, 8), 0);
        due("was 8", x.row(0, 0, 8), 8);

        sentence(5, "The ROW of a TOLD one becomes n for MONTHS modulo 3 being part: what it was. NONE: sort, part;");
        due("part 2", x.row(0, 2, 4), 0);
        for (int part : new int[] {-1, 3, MIN, MAX}) {
            due("part " + part, x.row(0, part, 0), -1);
            due("part " + part + " ahead of n", x.row(0, part, 10), -1);
        }
        for (int s : new int[] {-1, 1, MIN, MAX}) {
            due("sort " + s, x.row(s, 0, 0), -1);
            due("sort " + s + " ahead of n", x.row(s, 0, 10), -1);
        }
        x.sort(TOLD, 0, 0, 0, 0, 0);
        due("sort 1, once it is there", x.row(1, 0, 1), 0);
        for (int m = 0; m < 12; m++) {
            x.month(m);
            due("shown in month " + m, x.of(0, 12), new int[] {8, 0, 4}[m % 3]);
        }

        sentence(5, "STATE: another KIND.");
        for (int kind = 0; kind < 7; kind++) {
            x = new FeetHorns();
            x.sort(kind, 0, 0, 0, 0, 0);
            due("kind " + kind, x.row(0, 0, 1), kind == TOLD ? 0 : -3);
            due("n ahead of kind " + kind, x.row(0, 0, 10), -2);
            due("part ahead of kind " + kind, x.row(0, 3, 1), -1);
        }
    }

    private static void month() {
        sentence(6, "MONTH becomes n: what it was. BAD.");
        FeetHorns x = new FeetHorns();
        due("-1", x.month(-1), -2);
        due("was 0", x.month(11), 0);
        due("12", x.month(12), -2);
        due("far", x.month(MIN) + x.month(MAX), -4);
        due("was 11", x.month(0), 11);
        for (int m = 1; m < 12; m++) {
            due("month " + m, x.month(m), m - 1);
            due("is " + m, x.told(1), m);
        }
    }

    // ---- 7, 8

    private static void tell() {
        sentence(7, "A number is TOLD for a HOLE (-1: nothing): 1. NONE; BAD: n (0 .. 999).");
        FeetHorns x = new FeetHorns();
        for (int h = 0; h < 3; h++) {
            for (int n : new int[] {999, 0, 1, 998}) {
                due("hole " + h + ", " + n, x.tell(h, n), 1);
                due("hole " + h + " is told " + n, x.told(30 + h), n);
            }
            for (int n : new int[] {1000, -2, MIN, MAX}) {
                due("hole " + h + ", " + n, x.tell(h, n), -2);
                due("hole " + h + " is told still", x.told(30 + h), 998);
            }
            due("hole " + h + ", nothing", x.tell(h, -1), 1);
            due("hole " + h + " is told nothing", x.told(30 + h), -5);
            due("hole " + h + ", nothing again", x.tell(h, -1), 1);
        }
        for (int h : new int[] {-1, 3, MIN, MAX}) {
            due("hole " + h, x.tell(h, 0), -1);
            due("hole " + h + ", nothing", x.tell(h, -1), -1);
            due("hole " + h + " ahead of n", x.tell(h, 1000), -1);
        }
    }

    private static void feed() {
        sentence(8, "A sign (0 .. 127) comes behind THE TEXT's: how many it has. BAD;");
        FeetHorns x = new FeetHorns();
        due("0", x.feed(0), 1);
        due("-1", x.feed(-1), -2);
        due("127", x.feed(127), 2);
        due("128", x.feed(128), -2);
        due("far", x.feed(MIN) + x.feed(MAX), -4);
        due("256 and a sign", x.feed(256 + 'o'), -2);
        due("two came", x.count(3), 2);
        due("the first is none", x.fence(), -10);

        sentence(8, "A FENCE is read from THE TEXT (bytes, 100 at most)");
        x = new FeetHorns();
        for (int i = 1; i <= 100; i++) {
            due("sign " + i, x.feed('m'), i);
        }
        due("sign 101", x.feed('m'), -4);
        due("bad ahead of full", x.feed(128), -2);
        due("bad ahead of full, too", x.feed(-1), -2);
        due("a hundred are there", x.count(3), 100);
        due("the text is no fence", x.fence(), -11);
        due("there is room again", x.feed('m'), 1);
    }

    // ---- 9: the text

    private static String fenceOf(int bytes) {
        int longer = bytes - 97;
        return "owe 1 " + times(longer, "s=11&", "") + times(23 - longer, "s=1", "&");
    }

    private static void fenceClauses() {
        sentence(9, "A FENCE is read from THE TEXT (bytes, 100 at most)");
        for (int bytes = 97; bytes <= 100; bytes++) {
            due("bytes", fenceOf(bytes).length(), bytes);
            due("a fence of " + bytes, fence(fenceOf(bytes)), 0);
        }
        due("a fence of 101, of which the last is not taken", fence(fenceOf(101)), -10 - 100);
        String open = "owe 11 (" + times(23, "s=1", "&");
        due("a hundred are read", fence(open + "|"), -10 - 100);
        due("the last byte is read", fence(open + ";"), -10 - 99);

        sentence(9, "CLAUSES, 1 to 10, with ; between");
        due("none", fence(""), -10);
        due("one", fence("most 1"), 0);
        due("two", fence("most 1;most 1"), 0);
        due("none behind a ;", fence("most 1;"), -10 - 7);
        due("none ahead of a ;", fence(";most 1"), -10);
        due("none between two", fence("most 1;;most 1"), -10 - 7);
        due("no ; between", fence("most 1most 1"), -10 - 6);
        due("a blank between", fence("most 1; most 1"), -10 - 7);
        due("a blank ahead of ;", fence("most 1 ;most 1"), -10 - 6);
        for (int n = 1; n <= 10; n++) {
            due(n + " clauses", fence(times(n, "most 1", ";")), 0);
        }
        due("eleven clauses", fence(times(11, "most 1", ";")), -10 - 69);
        due("ten and a ;", fence(times(10, "most 1", ";") + ";"), -10 - 69);
        due("ten of more than one word", fence("most 1;" + times(8, "owe 1 s<1", ";") + ";most 2"), 0);
        FeetHorns x = ofOneFoot(1);
        fence(x, times(10, "owe 9 s<9", ";"));
        due("all ten are read", x.of(0, 6), 90);

        sentence(9, "owe n E; see n E; most n (one blank ahead of each part behind the word; n 1 or 2 digits)");
        for (String word : new String[] {"owe", "see"}) {
            due(word, fence(word + " 1 s=1"), 0);
            due(word + ", no blank ahead of n", fence(word + "1 s=1"), -10 - 3);
            due(word + ", two", fence(word + "  1 s=1"), -10 - 4);
            due(word + ", no blank ahead of E", fence(word + " 1s=1"), -10 - 5);
            due(word + ", two", fence(word + " 1  s=1"), -10 - 6);
            due(word + ", no digit", fence(word + " s=1"), -10 - 4);
            due(word + ", two digits", fence(word + " 12 s=1"), 0);
            due(word + ", three digits", fence(word + " 123 s=1"), -10 - 6);
            due(word + ", no E", fence(word + " 12"), -10 - 6);
            due(word + ", no E, but a blank", fence(word + " 12 "), -10 - 7);
            due(word + ", no E, but a ;", fence(word + " 12;most 1"), -10 - 6);
            due(word + ", a blank behind", fence(word + " 1 s=1 "), -10 - 9);
            due(word + ", a blank ahead", fence(" " + word + " 1 s=1"), -10);
        }
        due("most", fence("most 1"), 0);
        due("most, no blank", fence("most1"), -10 - 4);
        due("most, two", fence("most  1"), -10 - 5);
        due("most, no digit", fence("most "), -10 - 5);
        due("most, two digits", fence("most 12"), 0);
        due("most, three digits", fence("most 123"), -10 - 7);
        due("most, an E", fence("most 1 s=1"), -10 - 6);
        due("most, a sign ahead of the number", fence("most -1"), -10 - 5);
    }

    private static void fenceTests() {
        sentence(9, "or a TEST: a letter, < or = or >, a number (1 or 2 digits)");
        for (char sign = 0; sign < 128; sign++) {
            boolean isLetter = "skvfmh".indexOf(sign) >= 0;
            due("letter " + (int) sign, fence("owe 1 " + sign + "=1"),
                isLetter ? 0 : sign == '!' || sign == '(' ? -10 - 7 : -10 - 6);
            due("relation " + (int) sign, fence("owe 1 s" + sign + "1"), "<=>".indexOf(sign) >= 0 ? 0 : -10 - 7);
            boolean isDigit = sign >= '0' && sign <= '9';
            due("digit " + (int) sign, fence("owe 1 s=" + sign), isDigit ? 0 : -10 - 8);
            due("second digit " + (int) sign, fence("owe 1 s=1" + sign),
                isDigit ? 0 : "&|;".indexOf(sign) >= 0 ? -10 - 10 : -10 - 9);
        }
        due("no digit", fence("owe 1 s="), -10 - 8);
        due("one", fence("owe 1 s=9"), 0);
        due("two", fence("owe 1 s=99"), 0);
        due("two with a 0 ahead", fence("owe 1 s=09"), 0);
        due("three", fence("owe 1 s=999"), -10 - 10);

        sentence(9, "E: T or T|E. T: F or F&T. F: !F, (E), or a TEST");
        for (String between : new String[] {"|", "&"}) {
            due("one", fence("owe 1 s=1"), 0);
            due("two by " + between, fence("owe 1 s=1" + between + "s=1"), 0);
            due("nothing behind " + between, fence("owe 1 s=1" + between), -10 - 10);
            due("nothing ahead of " + between, fence("owe 1 " + between + "s=1"), -10 - 6);
            due("nothing between " + between, fence("owe 1 s=1" + between + between + "s=1"), -10 - 10);
            due("nothing inside of ( behind " + between, fence("owe 1 (s=1" + between + ")"), -10 - 11);
        }
        due("nothing between two", fence("owe 1 s=1s=1"), -10 - 9);
        due("! of nothing", fence("owe 1 !"), -10 - 7);
        due("! of a test", fence("owe 1 !s=1"), 0);
        due("! behind a test", fence("owe 1 s=1!"), -10 - 9);
        due("( of nothing", fence("owe 1 ()"), -10 - 7);
        due("( of a test", fence("owe 1 (s=1)"), 0);
        due("( that is not closed", fence("owe 1 (s=1"), -10 - 10);
        due(") that closes nothing", fence("owe 1 s=1)"), -10 - 9);
        due(") that closes one more", fence("owe 1 (s=1))"), -10 - 11);
        due("( and a ; ahead of its )", fence("owe 1 (s=1;most 1)"), -10 - 10);
    }

    private static void fenceNesting() {
        sentence(9, "A ( or ! within 4 others is none.");
        for (int which = 0; which < 16; which++) {
            String ahead = "";
            String behind = "";
            for (int i = 0; i < 4; i++) {
                boolean isNot = (which >> i & 1) == 1;
                ahead += isNot ? "!" : "(";
                behind += isNot ? "" : ")";
            }
            due(ahead, fence("owe 1 " + ahead + "s=1" + behind), 0);
            due(ahead + "!", fence("owe 1 " + ahead + "!s=1" + behind), -10 - 10);
            due(ahead + "(", fence("owe 1 " + ahead + "(s=1)" + behind), -10 - 10);
            // a ! ends with its F, a ( does not
            due(ahead + ", a second F", fence("owe 1 " + ahead + "s=1&!s=1" + behind),
                ahead.endsWith("!") ? 0 : -10 - 14);
        }
        due("beside others, not within", fence("owe 1 ((((s=1))))&!!!!s=1|((((s=1))))"), 0);
        due("behind four that are closed", fence("owe 1 ((((s=1))))&!(s=1)"), 0);
        due("behind one that is closed within four", fence("owe 1 (((!s=1&(s=1))))"), 0);
        due("within four, behind a test", fence("owe 1 ((((s=1&(s=1)))))"), -10 - 14);
        due("within four, behind a |", fence("owe 1 ((((s=1|!s=1))))"), -10 - 14);
        due("within three, behind a |", fence("owe 1 (((s=1|!s=1)))"), 0);
        due("! ends with its F", fence("owe 1 !!!!s=1&(s=1)"), 0);
        due("a clause behind begins anew", fence("owe 1 ((((s=1))));owe 1 ((((s=1))))"), 0);
    }

    private static void fenceFaults() {
        sentence(9, "The FAULT: the place of the first byte with which none begins so (the end of THE TEXT, if it ends too early).");
        String whole = "owe 5 !(s<1|k>22)&v=3;see 12 h=0;most 9";
        due("the whole", fence(whole), 0);
        for (int length = 0; length < whole.length(); length++) {
            boolean isFence = length == 17 || length == 21 || length == 32;
            due("ends behind " + length, fence(whole.substring(0, length)), isFence ? 0 : -10 - length);
            for (char sign : new char[] {0, 'x', '?', 127}) {
                due("other at " + length, fence(whole.substring(0, length) + sign + whole.substring(length + 1)),
                    -10 - length);
            }
        }
        due("first byte", fence("x"), -10);
        due("first byte of a second clause", fence("most 1;x"), -10 - 7);
        due("a word that ends too early", fence("mos"), -10 - 3);
        due("a word that goes astray", fence("mots 1"), -10 - 2);
        due("other letters", fence("OWE 1 s=1"), -10);
    }

    // ---- 9: what holds

    private static void fenceHolds() {
        sentence(9, "The newest FENCE holds (6 at most); without one there are no CLAUSES.");
        FeetHorns x = ofOneFoot(1);
        due("without one", x.of(0, 6) + x.told(0), 8);
        for (int f = 0; f < 6; f++) {
            due("fence " + f, fence(x, "owe " + (f + 1) + " s=0;most " + (f + 1)), f);
            due("it holds", x.of(0, 6), f + 1);
            due("so does its most", x.told(0), f + 1);
            due("fences", x.count(1), f + 1);
        }

        sentence(9, "FULL: there are 6 (THE TEXT stays)");
        feedAll(x, "owe 9 s=0");
        due("the seventh", x.fence(), -4);
        due("the text stays", x.count(3), 9);
        due("the sixth holds", x.of(0, 6), 6);
        due("six fences", x.count(1), 6);
        due("the next sign comes behind it", x.feed(';'), 10);
        due("full, ahead of the fault", x.fence(), -4);
        due("the text stays still", x.count(3), 10);
        x = ofOneFoot(1);
        for (int f = 0; f < 5; f++) {
            fence(x, "most 1");
        }
        due("a fault with five", fence(x, "most 1;"), -10 - 7);
        due("five fences", x.count(1), 5);
        due("the sixth", fence(x, "most 2"), 5);
        due("the text is empty then", x.count(3), 0);
        due("an empty text with six", x.fence(), -4);

        sentence(9, "-10 less the FAULT (the one that held holds)");
        x = ofOneFoot(1);
        due("no fence held", fence(x, "owe 1 s=0;most 1;"), -10 - 17);
        due("none holds", x.of(0, 6) + x.told(0), 8);
        fence(x, "owe 2 s=0;most 2");
        due("a fault", fence(x, "owe 3 s=0;see 3 s=0;most 3 "), -10 - 26);
        due("the one that held holds", 100 * x.of(0, 6) + 10 * x.told(0) + x.of(0, 10), 221);
        due("a fence", fence(x, "see 3 s=0"), 1);
        due("nothing of the faulty one", 100 * x.of(0, 6) + 10 * x.told(0) + x.of(0, 10), 84);

        x = ofOneFoot(1);
        String[] faulty = {"owe 1 q=1", "owe 1 s!1", "owe 1 s=x", "owe 1 !q<1", "owe 1 (s=1&q=1)", "owe 1 " + times(23, "s=1", "&") + "x"};
        for (int i = 0; i < 12; i++) {
            due("a fault in a test", fence(x, faulty[i % faulty.length]) < -10 ? 1 : 0, 1);
        }
        due("a fence behind twelve faults", fence(x, "owe 7 !s=1&s=0;see 4 s=1|h=0"), 0);
        due("nothing of the faulty ones is in it", 100 * x.of(0, 6) + x.of(0, 10), 705);
        due("nor by horns", x.of(0, 11), 0);

        sentence(9, "THE TEXT, which is empty then, is a FENCE, and holds: its number.");
        x = ofOneFoot(1);
        feedAll(x, "most 3");
        due("ahead of it", x.count(3), 6);
        due("its number", x.fence(), 0);
        due("empty then", x.count(3), 0);
        due("an empty text is none", x.fence(), -10);
        feedAll(x, "most 4 ");
        due("a fault", x.fence(), -10 - 6);
        due("empty then, too", x.count(3), 0);
        due("nothing of it is left", fence(x, "most 5"), 1);
    }

    /** Whether an expression holds of a sort, for what it owes. */
    private static int holds(FeetHorns x, int sort, String expression) {
        due("fence of " + expression, fence(x, "owe 1 " + expression), 0);
        return x.of(sort, 6) - x.of(sort, 5);
    }

    private static FeetHorns oneBehindThree() {
        FeetHorns x = ofOneFoot(3);
        x.sort(PROUD, 5, 6, 1, 1, 0);
        x.month(7);
        return x;
    }

    private static void fenceMeans() {
        sentence(9, "of a SORT with a HOLE s its number, k its KIND, v its number v, f FEET, m MONTH, h the HOLE (of owe: 9)");
        int[] values = {3, PROUD, 5, 6, 7, 9};
        for (int letter = 0; letter < 6; letter++) {
            char name = "skvfmh".charAt(letter);
            int value = values[letter];
            for (int n : new int[] {0, value - 1, value, value + 1, 99}) {
                due(name + "<" + n, holds(oneBehindThree(), 3, name + "<" + n), value < n ? 1 : 0);
                due(name + "=" + n, holds(oneBehindThree(), 3, name + "=" + n), value == n ? 1 : 0);
                due(name + ">" + n, holds(oneBehindThree(), 3, name + ">" + n), value > n ? 1 : 0);
            }
        }
        due("s<0", holds(ofOneFoot(1), 0, "s<0"), 0);
        due("s<1", holds(ofOneFoot(1), 0, "s<1"), 1);
        due("s=00", holds(ofOneFoot(1), 0, "s=00"), 1);
        due("s=01", holds(ofOneFoot(1), 0, "s=01"), 0);
        for (int h = 0; h < 3; h++) {
            FeetHorns x = new FeetHorns();
            x.sort(BEAST, 0, 0, 0, 0, 0);
            fence(x, "see 1 h=" + h + ";see 10 h>" + h + ";see 20 h<" + h + ";owe 1 h=" + h);
            for (int by = 0; by < 3; by++) {
                due("h " + h + " by hole " + by, x.of(0, 10 + by), by == h ? 1 : by > h ? 10 : 20);
            }
            due("h of owe is not " + h, x.of(0, 6), 0);
        }
        FeetHorns x = new FeetHorns();
        x.sort(LAME, 0, 6, 0, 0, 0);
        fence(x, "owe 1 f=5;owe 2 f=6");
        due("f is FEET, not what it shows", x.of(0, 6), 2);

        sentence(9, "E: T or T|E. T: F or F&T. F: !F, (E), or a TEST");
        String[] truths = {"s=1", "s=0"};
        for (int which = 0; which < 8; which++) {
            boolean a = (which & 1) == 1;
            boolean b = (which & 2) == 2;
            boolean c = (which & 4) == 4;
            String[] e = {truths[a ? 1 : 0], truths[b ? 1 : 0], truths[c ? 1 : 0]};
            due("a|b&c " + which, holds(ofOneFoot(1), 0, e[0] + "|" + e[1] + "&" + e[2]), a || b && c ? 1 : 0);
            due("a&b|c " + which, holds(ofOneFoot(1), 0, e[0] + "&" + e[1] + "|" + e[2]), a && b || c ? 1 : 0);
            due("(a|b)&c " + which, holds(ofOneFoot(1), 0, "(" + e[0] + "|" + e[1] + ")&" + e[2]), (a || b) && c ? 1 : 0);
            due("a&(b|c) " + which, holds(ofOneFoot(1), 0, e[0] + "&(" + e[1] + "|" + e[2] + ")"), a && (b || c) ? 1 : 0);
            due("!a&b " + which, holds(ofOneFoot(1), 0, "!" + e[0] + "&" + e[1]), !a && b ? 1 : 0);
            due("!a|b " + which, holds(ofOneFoot(1), 0, "!" + e[0] + "|" + e[1]), !a || b ? 1 : 0);
            due("!(a&b) " + which, holds(ofOneFoot(1), 0, "!(" + e[0] + "&" + e[1] + ")"), !(a && b) ? 1 : 0);
            due("!!a&!!!b " + which, holds(ofOneFoot(1), 0, "!!" + e[0] + "&!!!" + e[1]), a && !b ? 1 : 0);
        }

        sentence(9, "most (8 without): the last one's n, or 9, if that is more.");
        due("without a fence", new FeetHorns().told(0), 8);
        String[] texts = {"owe 1 s=0", "most 0", "most 1", "most 8", "most 9", "most 10", "most 99", "most 09", "most 3;most 5",
            "most 5;most 3", "most 99;most 4", "most 4;most 99", "most 10;most 0", "most 2;owe 9 s=0;see 9 s=0"};
        int[] dues = {8, 0, 1, 8, 9, 9, 9, 9, 5, 3, 4, 9, 0, 2};
        for (int i = 0; i < texts.length; i++) {
            x = new FeetHorns();
            fence(x, texts[i]);
            due(texts[i], x.told(0), dues[i]);
        }
    }

    // ---- 10

    private static void told() {
        sentence(10, "What 0 most, 1 MONTH, 2 TOLL of THE HERD, 3 of the second one, 10 and h COUNT of THE HERD by HOLE h, "
            + "20 and h of the second one, 30 and h what is TOLD (-5: nothing). -1001: NONE.");
        FeetHorns x = new FeetHorns();
        x.sort(BEAST, 0, 4, 3, 2, 5);
        x.herd(0, 0, 2);
        x.herd(0, 1, 3);
        x.month(7);
        tellAll(x, 0, -1, 999);
        int[] whats = {-1, 0, 1, 2, 3, 4, 9, 10, 11, 12, 13, 19, 20, 21, 22, 23, 29, 30, 31, 32, 33, 40, MIN, MIN + 10, MIN + 30, MAX};
        int[] dues = {-1001, 8, 7, 10, 15, -1001, -1001, 8, 6, 4, -1001, -1001, 12, 9, 6, -1001, -1001, 0, -5, 999, -1001, -1001,
            -1001, -1001, -1001, -1001};
        for (int i = 0; i < whats.length; i++) {
            due("what " + whats[i], x.told(whats[i]), dues[i]);
        }

        sentence(10, "COUNT of a HERD by a HOLE: what all beasts of it show there, together.");
        x = new FeetHorns();
        due("no sorts", x.told(10) + x.told(21) + x.told(12), 0);
        for (int s = 0; s < 5; s++) {
            x.sort(BEAST, 0, 9, 1, s, 99);
        }
        due("none in the herd", x.told(10) + x.told(21) + x.told(12), 0);
        x.herd(4, 0, 1);
        due("one", 100 * x.told(10) + 10 * x.told(11) + x.told(12), 914);
        for (int s = 0; s < 5; s++) {
            x.herd(s, 0, 12);
            x.herd(s, 1, 1);
        }
        due("sixty, feet", x.told(10), 540);
        due("sixty, horns", x.told(11), 60);
        due("sixty, tails", x.told(12), 120);
        due("five, tails", x.told(22), 10);

        sentence(10, "TOLL of a HERD: what all OWE, together.");
        due("sixty", x.told(2), 60 * 99);
        due("five", x.told(3), 5 * 99);
        fence(x, times(7, "owe 99 s<9", ";"));
        due("sixty that owe more", x.told(2), 60 * 99 * 8);
        for (int s = 0; s < 5; s++) {
            x.herd(s, 0, 0);
        }
        due("none", x.told(2), 0);
    }
}

/** Promises 11 to 19: each sentence that names a boundary, on both sides of it. */
public final class BoundariesOfHerds extends Sentences {
    public static void main(String[] args) {
        herdsThereAre();
        fits();
        bars();
        hole();
        alike();
        missed();
        mix();
        prices();
        hid();
        months();
        end(11, 19);
    }

    // ---- 11

    /** How many rows of so many numbers have so much at most, together. */
    private static int rows(int numbers, int most) {
        int found = 1;
        for (int i = 1; i <= numbers; i++) {
            found = found * (most + i) / i;
        }
        return found;
    }

    private static void herdsThereAre() {
        sentence(11, "HERDS are all rows of how many there are of each SORT, by numbers, most beasts at most, together");
        for (int sorts = 0; sorts <= 5; sorts++) {
            FeetHorns x = ofOneFoot(sorts);
            fence(x, "owe 1 s<9");
            due(sorts + " sorts, 8 without a most", x.fits(0), rows(sorts, 8));
            for (int most : new int[] {0, 1, 9, 10}) {
                fence(x, "owe 1 s<9;most " + most);
                int beasts = Math.min(most, 9);
                due(sorts + " sorts, most " + most, x.fits(0), rows(sorts, beasts));
                due(sorts + " sorts, most " + most + ", least toll", x.fits(1), 0);
                due(sorts + " sorts, most " + most + ", greatest toll", x.fits(2), sorts == 0 ? 0 : beasts);
            }
        }
        FeetHorns x = ofOneFoot(2);
        x.tell(0, 8);
        due("eight beasts", x.fits(0), 9);
        x.tell(0, 9);
        due("nine beasts", x.fits(0), 0);
        fence(x, "most 9");
        due("nine of nine", x.fits(0), 10);
        x.tell(0, 10);
        due("ten of nine", x.fits(0), 0);

        sentence(11, "(THE HERD may have more)");
        x = ofOneFoot(1);
        x.tell(0, 12);
        due("twelve in the herd", x.herd(0, 0, 12), 0);
        due("its count", x.told(10), 12);
        due("no herd of so many fits", x.fits(0), 0);
        x.tell(0, 8);
        due("eight fit", x.fits(0), 1);
    }

    private static void fits() {
        sentence(11, "FITS: the HERDS the COUNTS of which are all that is TOLD: how many;");
        FeetHorns x = new FeetHorns();
        x.sort(BEAST, 0, 3, 2, 1, 4);
        due("nothing told", x.fits(0), 9);
        int[] one = {3, 2, 1};
        for (int h = 0; h < 3; h++) {
            x.tell(h, 0);
            due("hole " + h + ", none", x.fits(0), 1);
            due("hole " + h + ", none of it", x.fits(10), 0);
            x.tell(h, 4 * one[h]);
            due("hole " + h + ", four", x.fits(0), 1);
            due("hole " + h + ", four of it", x.fits(10), 4);
            x.tell(h, 8 * one[h]);
            due("hole " + h + ", eight", x.fits(10), 8);
            x.tell(h, 9 * one[h]);
            due("hole " + h + ", nine", x.fits(0), 0);
            x.tell(h, 8 * one[h] + 1);
            due("hole " + h + ", one above eight", x.fits(0), 0);
            x.tell(h, 8 * one[h] - 1);
            due("hole " + h + ", one below eight", x.fits(0), one[h] == 1 ? 1 : 0);
            x.tell(h, -1);
        }
        tellAll(x, 12, 8, 4);
        due("all three", x.fits(0), 1);
        for (int h = 0; h < 3; h++) {
            x.tell(h, 4 * one[h] + one[h]);
            due("all but hole " + h, x.fits(0), 0);
            x.tell(h, -1);
            due("nothing for hole " + h, x.fits(0), 1);
            x.tell(h, 4 * one[h]);
        }
        x = ofOneFoot(1);
        fence(x, "see 99 h=0;see 11 h=0;most 9");
        x.tell(0, 999);
        due("nine of 111", x.fits(10), 9);
        x.tell(0, 998);
        due("998", x.fits(0), 0);

        sentence(11, "the least and the greatest TOLL of these;");
        x = new FeetHorns();
        x.sort(BEAST, 0, 2, 0, 0, 9);
        x.sort(BEAST, 0, 1, 0, 0, 5);
        x.tell(0, 4);
        due("2, 0 or 1, 2 or 0, 4", x.fits(0), 3);
        due("least", x.fits(1), 18);
        due("greatest", x.fits(2), 20);
        fence(x, "owe 1 s=0");
        due("all pay alike: least", x.fits(1), 20);
        due("all pay alike: greatest", x.fits(2), 20);
        fence(x, "owe 2 s=0");
        due("the other is cheaper: least", x.fits(1), 20);
        due("the other is cheaper: greatest", x.fits(2), 22);

        sentence(11, "of several with the least TOLL the first as a row");
        due("the cheaper one: 0", x.fits(10), 0);
        due("the cheaper one: 4", x.fits(11), 4);
        fence(x, "owe 1 s=0");
        due("of equals the first: 0", x.fits(10), 0);
        due("of equals the first: 4", x.fits(11), 4);
        fence(x, "most 9");
        due("the last one is cheaper: 2", x.fits(10), 2);
        due("the last one is cheaper: 0", x.fits(11), 0);
        x = new FeetHorns();
        x.sort(BEAST, 0, 0, 0, 0, 0);
        due("of nine that pay nothing the first", x.fits(10), 0);

        sentence(11, "(-5: none fits).");
        x = ofOneFoot(1);
        x.tell(0, 8);
        due("one fits", x.fits(0), 1);
        due("its least", x.fits(1), 0);
        due("its greatest", x.fits(2), 0);
        due("its beasts", x.fits(10), 8);
        x.tell(0, 9);
        due("none fits", x.fits(0), 0);
        due("no least", x.fits(1), -5);
        due("no greatest", x.fits(2), -5);
        due("no beasts", x.fits(10), -5);

        sentence(11, "FITS: what 0 how many, 1 the least TOLL, 2 the greatest, 10 and s how many of SORT s the first with the "
            + "least has; -5. -1001: NONE.");
        for (int sorts = 0; sorts <= 5; sorts++) {
            x = ofOneFoot(sorts);
            for (int what : new int[] {0, 1, 2}) {
                due(sorts + " sorts, what " + what, x.fits(what), what == 0 ? rows(sorts, 8) : 0);
            }
            for (int what : new int[] {-1, 3, 9, MIN, MIN + 10, MAX}) {
                due(sorts + " sorts, what " + what, x.fits(what), -1001);
            }
            for (int s = 0; s <= 5; s++) {
                due(sorts + " sorts, what 10 and " + s, x.fits(10 + s), s < sorts ? 0 : -1001);
            }
        }
    }

    // ---- 12

    private static int bars(int shows, int told) {
        FeetHorns x = new FeetHorns();
        x.sort(BEAST, 0, 0, 0, 0, 0);
        fence(x, "see " + shows + " h=0");
        x.tell(0, told);
        return x.bars();
    }

    private static void bars() {
        sentence(12, "BARS: the least d (2 .. 30)");
        due("2", bars(2, 1), 200);
        due("by 2 none", bars(2, 2), -5);
        // only the power of a prime can be the least: what another leaves one of its own powers leaves, too
        int[] powers = {2, 3, 4, 5, 7, 8, 9, 11, 13, 16, 17, 19, 23, 25, 27, 29};
        int[] below = {1, 1, 2, 1, 1, 4, 3, 1, 1, 8, 1, 1, 1, 5, 9, 1};
        for (int i = 0; i < powers.length; i++) {
            due("one shows " + powers[i] + ", told " + below[i], bars(powers[i], below[i]), 100 * powers[i]);
            due("a multiple of it", bars(powers[i], 3 * powers[i]), -5);
        }
        due("28 that leaves 4: 14", bars(28, 14), 400);
        due("28 that leaves 7: 4", bars(28, 4), 700);
        due("30 leaves 2, 3 and 5: 15", bars(30, 15), 200);
        due("30 leaves 2, 3 and 5: 10", bars(30, 10), 300);
        due("30 leaves 2, 3 and 5: 6", bars(30, 6), 500);
        due("30 leaves 2, 3 and 5: 30", bars(30, 30), -5);
        due("31 is too great", bars(31, 1), -5);
        due("32 is too great, 16 not", bars(32, 8), 1600);
        due("32 is too great", bars(32, 16), -5);
        due("1 that shows all", bars(1, 999), -5);

        sentence(12, "such that for some HOLE no beasts (any many of each SORT) have a COUNT that leaves by d what the number "
            + "TOLD for it leaves");
        due("none show any", bars(0, 1), 200);
        due("none show any, none told", bars(0, 0), -5);
        due("more than most beasts", bars(3, 300), -5);
        due("less than one beast, but it leaves as much", bars(5, 4), 500);
        due("less than one beast, 7 and 2", bars(7, 2), 700);
        FeetHorns x = new FeetHorns();
        x.tell(1, 1);
        due("no sorts", x.bars(), 201);
        x.tell(1, 0);
        due("no sorts, none told", x.bars(), -5);
        x.sort(BEAST, 0, 0, 4, 0, 0);
        x.tell(1, 6);
        due("by 4", x.bars(), 401);
        x.sort(BEAST, 0, 0, 6, 0, 0);
        due("4 and 6", x.bars(), -5);
        x.tell(1, 7);
        due("4 and 6 by 2", x.bars(), 201);
        x.sort(BEAST, 0, 0, 9, 0, 0);
        due("4, 6 and 9", x.bars(), -5);

        sentence(12, "100 times d, and the HOLE (the first such; -5: none)");
        for (int h = 0; h < 3; h++) {
            x = new FeetHorns();
            x.sort(BEAST, 0, 4, 4, 4, 0);
            x.tell(h, 2);
            due("hole " + h, x.bars(), 400 + h);
            x.tell(h, 1);
            due("hole " + h, x.bars(), 200 + h);
            x.tell(h, 4);
            due("hole " + h + ", none", x.bars(), -5);
            x.tell(h, -1);
            due("hole " + h + ", nothing told", x.bars(), -5);
        }
        tellAll(x, 2, 2, 2);
        due("the first of three", x.bars(), 400);
        tellAll(x, 4, 2, 2);
        due("the first of two", x.bars(), 401);
        tellAll(x, 2, 2, 1);
        due("the least d ahead of the first hole", x.bars(), 202);
    }

    // ---- 13

    private static void hole() {
        sentence(13, "HOLE: of HOLES that are not TOLD that by which, if COUNT of THE HERD by it were TOLD, too, the fewest HERDS "
            + "fit (of several the first; -5: all are TOLD); how many.");
        FeetHorns x = new FeetHorns();
        x.sort(BEAST, 0, 1, 1, 1, 0);
        x.sort(BEAST, 0, 1, 1, 1, 0);
        x.herd(0, 0, 1);
        due("all alike: the first", x.hole(0), 0);
        due("all alike: two fit", x.hole(1), 2);
        x.tell(0, 1);
        due("feet are told: horns", x.hole(0), 1);
        due("feet are told: two fit", x.hole(1), 2);
        x.tell(1, 1);
        due("but tails all are told", x.hole(0), 2);
        due("but tails all are told: two fit", x.hole(1), 2);
        x.tell(2, 1);
        due("all are told", x.hole(0), -5);
        due("all are told: how many", x.hole(1), -5);
        x.tell(1, -1);
        due("but horns all are told", x.hole(0), 1);
        x.tell(0, 9);
        due("none fits: horns", x.hole(0), 1);
        due("none fits: how many", x.hole(1), 0);

        x = new FeetHorns();
        x.sort(BEAST, 0, 1, 1, 1, 0);
        x.sort(BEAST, 0, 1, 2, 2, 0);
        x.herd(0, 0, 2);
        // 2 feet: 0 2, 1 1, 2 0; 2 horns or tails: 0 1, 2 0
        due("horns leave fewer than feet, tails as few", x.hole(0), 1);
        due("horns leave two", x.hole(1), 2);
        x.sort(BEAST, 0, 0, 0, 1, 0);
        x.tell(0, 2);
        x.tell(1, 2);
        due("feet and horns are told: tails", x.hole(0), 2);
        due("feet and horns are told: one fits", x.hole(1), 1);

        x = ofOneFoot(1);
        fence(x, "see 99 h=0;see 25 h=0");
        x.herd(0, 0, 8);
        due("a count of a thousand, which none can tell", x.told(10), 1000);
        due("it settles most", x.hole(0), 0);
        due("it leaves the herd alone", x.hole(1), 1);
        x.herd(0, 0, 9);
        due("more than most: none", x.hole(1), 0);

        sentence(13, "HOLE: what 0 which, 1 how many; -5. NONE.");
        x = new FeetHorns();
        due("no sorts: which", x.hole(0), 0);
        due("no sorts: how many", x.hole(1), 1);
        for (int what : new int[] {-1, 2, MIN, MAX}) {
            due("what " + what, x.hole(what), -1);
        }
        tellAll(x, 0, 0, 0);
        due("all told: which", x.hole(0), -5);
        for (int what : new int[] {-1, 2}) {
            due("all told: what " + what, x.hole(what), -1);
        }
    }

    // ---- 14, 15

    private static void alike() {
        sentence(14, "ALIKE: of HERDS that have all COUNTS of THE HERD that with the least TOLL (of several the first as a row): the "
            + "TOLL; how many of a SORT (-5: there is none).");
        FeetHorns x = new FeetHorns();
        x.sort(BEAST, 0, 2, 0, 0, 3);
        x.herd(0, 0, 8);
        due("eight of eight", x.alike(0), 24);
        due("eight of eight: of the sort", x.alike(10), 8);
        x.herd(0, 0, 9);
        due("nine of eight", x.alike(0), -5);
        due("nine of eight: of the sort", x.alike(10), -5);
        x.sort(BEAST, 0, 4, 0, 0, 6);
        due("nine of eight, but another shows as much as two", x.alike(0), 27);
        due("the first as a row: 1", x.alike(10), 1);
        due("the first as a row: 4", x.alike(11), 4);
        fence(x, "owe 1 s=1");
        due("the other pays more", x.alike(0), 28);
        due("the other pays more: 7", x.alike(10), 7);
        due("the other pays more: 1", x.alike(11), 1);
        for (int h = 0; h < 3; h++) {
            x = new FeetHorns();
            x.sort(BEAST, 0, 1, 1, 1, 5);
            x.sort(BEAST, 0, h == 0 ? 2 : 1, h == 1 ? 2 : 1, h == 2 ? 2 : 1, 1);
            x.herd(0, 0, 1);
            due("all counts: hole " + h + " is otherwise", x.alike(0), 5);
            fence(x, "see 1 s=0&h=" + h);
            due("all counts: hole " + h + " is not", x.alike(0), 1);
        }

        sentence(14, "ALIKE: what 0 the TOLL, 10 and s how many of SORT s; -5. -1001: NONE.");
        for (int sorts = 0; sorts <= 5; sorts++) {
            x = ofOneFoot(sorts);
            for (int what = -1; what <= 16; what++) {
                due(sorts + " sorts, what " + what, x.alike(what), what == 0 || what >= 10 && what < 10 + sorts ? 0 : -1001);
            }
            for (int what : new int[] {MIN, MIN + 10, MAX}) {
                due(sorts + " sorts, what " + what, x.alike(what), -1001);
            }
        }
    }

    private static void missed() {
        sentence(15, "MISSED: of HERDS the COUNTS of which are nowhere less than what is TOLD the least of what they are more there, "
            + "together (-5: none).");
        for (int h = 0; h < 3; h++) {
            FeetHorns x = new FeetHorns();
            x.sort(BEAST, 0, 3, 3, 3, 0);
            due("nothing told", x.missed(), 0);
            int[] tolds = {0, 1, 2, 3, 4, 21, 22, 23, 24, 25, 999};
            int[] dues = {0, 2, 1, 0, 2, 0, 2, 1, 0, -5, -5};
            for (int i = 0; i < tolds.length; i++) {
                x.tell(h, tolds[i]);
                due("hole " + h + ", told " + tolds[i], x.missed(), dues[i]);
            }
            x.tell(h, 25);
            fence(x, "most 9");
            due("hole " + h + ", of nine", x.missed(), 2);
        }
        FeetHorns x = new FeetHorns();
        x.sort(BEAST, 0, 2, 1, 3, 0);
        tellAll(x, 2, 1, 3);
        due("as told by all", x.missed(), 0);
        tellAll(x, 3, 1, 3);
        due("one below by feet: another beast", x.missed(), 1 + 1 + 3);
        tellAll(x, 3, -1, 3);
        due("nothing told by horns", x.missed(), 1 + 3);
        tellAll(x, 1, 1, 1);
        due("more by feet and tails", x.missed(), 1 + 2);
        x = new FeetHorns();
        due("no sorts", x.missed(), 0);
        x.tell(0, 0);
        due("no sorts, none told", x.missed(), 0);
        x.tell(0, 1);
        due("no sorts, one told", x.missed(), -5);
    }

    // ---- 16, 17

    private static FeetHorns drovers(int first, int second, String text) {
        FeetHorns x = new FeetHorns();
        x.sort(BEAST, 0, 1, 0, 0, 5);
        x.herd(0, 0, first);
        x.herd(0, 1, second);
        fence(x, text);
        return x;
    }

    private static void mix() {
        sentence(16, "a HERD (2 times most beasts at most) that has the COUNTS of both, together");
        for (int most = 0; most <= 9; most++) {
            String text = "most " + most;
            due("twice " + most, drovers(most, most, text).mix(), 0);
            due("one more than twice " + most, drovers(most, most + 1, text).mix(), -100001);
            due("one less than twice " + most, drovers(most, Math.max(0, most - 1), text).mix(), 0);
        }
        due("8 without: sixteen", drovers(12, 4, "owe 1 s=0").mix(), 0);
        due("8 without: seventeen", drovers(12, 5, "owe 1 s=0").mix(), -100001);
        due("9, if it is more: eighteen", drovers(6, 12, "most 99").mix(), 0);
        due("9, if it is more: nineteen", drovers(7, 12, "most 99").mix(), -100001);
        for (int h = 0; h < 3; h++) {
            FeetHorns x = new FeetHorns();
            x.sort(BEAST, 0, 1, 1, 1, 5);
            x.sort(BEAST, 0, h == 0 ? 2 : 1, h == 1 ? 2 : 1, h == 2 ? 2 : 1, 1);
            x.herd(0, 0, 1);
            due("all counts: hole " + h + " is otherwise", x.mix(), 0);
            fence(x, "see 1 s=0&h=" + h);
            due("all counts: hole " + h + " is not", x.mix(), 4);
        }

        sentence(16, "what both pay apart, less the least TOLL of a HERD");
        FeetHorns x = new FeetHorns();
        due("no sorts", x.mix(), 0);
        x.sort(BEAST, 0, 1, 0, 0, 5);
        x.sort(BEAST, 0, 1, 0, 0, 3);
        x.sort(BEAST, 0, 2, 0, 0, 7);
        x.herd(0, 0, 1);
        due("one alone is one of the other", x.mix(), 5 - 3);
        x.herd(1, 1, 1);
        due("two are two of the other", x.mix(), 5 + 3 - 6);
        fence(x, "owe 2 s=1");
        due("two are one of the third", x.mix(), 5 + 5 - 7);

        sentence(16, "(may be below 0; -100001: none has)");
        x = new FeetHorns();
        x.sort(BEAST, 0, 2, 0, 0, 1);
        x.sort(BEAST, 0, 4, 0, 0, 3);
        fence(x, "most 1");
        x.herd(0, 0, 2);
        due("two themselves", x.mix(), 0);
        x.herd(0, 0, 3);
        due("three pay one less than two", x.mix(), 3 - 4);
        x.herd(0, 0, 4);
        due("four pay two less than two", x.mix(), 4 - 6);
        x.herd(0, 0, 5);
        due("five: none", x.mix(), -100001);

        x = ofOneFoot(0);
        x.sort(BEAST, 0, 1, 0, 0, 0);
        x.sort(BEAST, 0, 9, 0, 0, 99);
        fence(x, times(8, "owe 99 s=1", ";") + ";most 1");
        x.herd(0, 0, 9);
        due("far below 0", x.mix(), -9 * 99);
    }

    private static FeetHorns feetOnly(int feet, int toll, int n) {
        FeetHorns x = new FeetHorns();
        sorts(x, BEAST, 0, shows(feet, 0, 0), toll, n);
        return x;
    }

    private static void prices() {
        sentence(17, "PRICES: of rows of a price for a foot, a horn, a tail (0 .. 9 each) by which no SORT pays more than it OWES");
        for (int h = 0; h < 3; h++) {
            for (int toll : new int[] {0, 1, 8, 9, 10, 99}) {
                FeetHorns x = new FeetHorns();
                sorts(x, BEAST, 0, shows(h == 0 ? 1 : 0, h == 1 ? 1 : 0, h == 2 ? 1 : 0), toll, 1);
                int price = Math.min(9, toll);
                due("hole " + h + ", owes " + toll, x.prices(0), price);
                for (int by = 0; by < 3; by++) {
                    due("hole " + h + ", owes " + toll + ", price " + by, x.prices(1 + by), by == h ? price : 0);
                }
            }
        }
        int[] tolls = {0, 6, 7, 13, 14, 62, 63, 64};
        int[] paid = {0, 0, 7, 7, 14, 56, 63, 63};
        for (int i = 0; i < tolls.length; i++) {
            due("seven feet, owes " + tolls[i], feetOnly(7, tolls[i], 1).prices(0), paid[i]);
        }
        FeetHorns x = feetOnly(1, 9, 2);
        due("two of one sort", x.prices(0), 18);
        sorts(x, BEAST, 0, shows(1, 0, 0), 9, 0);
        due("another that owes as much", x.prices(0), 18);
        sorts(x, BEAST, 0, shows(1, 0, 0), 8, 0);
        due("another, not in the herd, that owes one less", x.prices(0), 16);
        sorts(x, BEAST, 0, shows(0, 1, 0), 0, 0);
        due("another that shows no feet", x.prices(0), 16);
        sorts(x, BEAST, 0, shows(2, 0, 0), 0, 0);
        due("another that owes nothing", x.prices(0), 0);
        x = feetOnly(1, 8, 1);
        fence(x, "owe 1 s=0");
        due("what it owes, not its toll", x.prices(0), 9);
        fence(x, "owe 1 s=0;see 1 h=0");
        due("what it shows, not its feet", x.prices(0), 8);

        sentence(17, "(by what one beast of it SHOWS)");
        x = feetOnly(3, 9, 1);
        due("one pays all", x.prices(0), 9);
        x.herd(0, 0, 12);
        due("twelve pay all", x.prices(0), 108);
        due("by as much a foot", x.prices(1), 3);

        sentence(17, "that by which THE HERD pays the most; of several the first as a row: how much; the price by a HOLE");
        x = new FeetHorns();
        sorts(x, BEAST, 0, shows(1, 1, 1), 3, 1);
        due("0 0 3 ahead of 3 0 0", 100 * x.prices(1) + 10 * x.prices(2) + x.prices(3), 3);
        sorts(x, BEAST, 0, shows(0, 0, 1), 2, 0);
        due("0 1 2 ahead of 1 0 2", 100 * x.prices(1) + 10 * x.prices(2) + x.prices(3), 12);
        sorts(x, BEAST, 0, shows(0, 1, 0), 0, 0);
        due("1 0 2", 100 * x.prices(1) + 10 * x.prices(2) + x.prices(3), 102);
        x.herd(0, 0, 0);
        due("none in the herd: the first of all", x.prices(1) + x.prices(2) + x.prices(3), 0);
        due("none in the herd", x.prices(0), 0);
        x = new FeetHorns();
        sorts(x, BEAST, 0, shows(1, 2, 1), 99, 1);
        due("the last row of all", 100 * x.prices(1) + 10 * x.prices(2) + x.prices(3), 999);
        due("the last row of all, how much", x.prices(0), 36);

        sentence(17, "PRICES: what 0 how much, 1 and h the price by HOLE h. NONE.");
        x = new FeetHorns();
        for (int what = 0; what <= 3; what++) {
            due("no sorts, what " + what, x.prices(what), 0);
        }
        for (int what : new int[] {-1, 4, MIN, MIN + 1, MAX}) {
            due("no sorts, what " + what, x.prices(what), -1);
        }
    }

    // ---- 18, 19

    private static void hid() {
        sentence(18, "HID: the first SORT of which so many (1 or more, no more than THE HERD has) could have been left out that COUNTS "
            + "without them are all that is TOLD; of that the least: 100 times the SORT, and how many (-5: none).");
        FeetHorns x = feetOnly(1, 0, 3);
        int[] dues = {3, 2, 1, -5, -5};
        for (int n = 0; n < dues.length; n++) {
            x.tell(0, n);
            due("three, of which are told " + n, x.hid(), dues[n]);
        }
        x.tell(0, -1);
        due("nothing told: the least", x.hid(), 1);
        x.herd(0, 0, 0);
        due("none to leave out", x.hid(), -5);
        x.herd(0, 0, 12);
        x.tell(0, 0);
        due("all twelve", x.hid(), 12);

        x = feetOnly(1, 0, 3);
        sorts(x, BEAST, 0, shows(2, 0, 0), 0, 5);
        x.tell(0, 10);
        due("three of the first", x.hid(), 3);
        x.tell(0, 9);
        due("four of the first are too many: two of the second", x.hid(), 102);
        x.tell(0, 12);
        due("one of the first", x.hid(), 1);
        x.tell(0, 11);
        due("two of the first ahead of one of the second", x.hid(), 2);
        x.tell(0, 3);
        due("five of the second", x.hid(), 105);
        x.tell(0, 2);
        due("six of the second are too many", x.hid(), -5);
        x.tell(0, 13);
        due("none left out", x.hid(), -5);
        sorts(x, BEAST, 0, shows(0, 0, 0), 0, 1);
        due("one that shows nothing", x.hid(), 201);
        x.herd(2, 0, 12);
        due("of twelve that show nothing the least", x.hid(), 201);
        x.herd(2, 0, 0);
        due("of none none", x.hid(), -5);

        for (int h = 0; h < 3; h++) {
            x = new FeetHorns();
            sorts(x, BEAST, 0, shows(1, 1, 1), 0, 2);
            tellAll(x, 1, 1, 1);
            due("one by all", x.hid(), 1);
            x.tell(h, 2);
            due("hole " + h + " is otherwise", x.hid(), -5);
            x.tell(h, 0);
            due("hole " + h + " is otherwise, too", x.hid(), -5);
            x.tell(h, -1);
            due("nothing told for hole " + h, x.hid(), 1);
        }
        x = new FeetHorns();
        due("no sorts", x.hid(), -5);
        for (int s = 0; s < 5; s++) {
            sorts(x, BEAST, 0, shows(s + 4, 0, 0), 0, 1);
        }
        x.tell(0, 4 + 5 + 6 + 7);
        due("the last sort", x.hid(), 401);
        x.tell(0, 4 + 5 + 6 + 7 - 1);
        due("none of five", x.hid(), -5);
    }

    private static void months() {
        sentence(19, "MONTHS: in which (bits 0 .. 11) THE HERD has the COUNTS that are TOLD.");
        due("no sorts, nothing told", new FeetHorns().months(), 4095);
        FeetHorns x = new FeetHorns();
        x.tell(2, 0);
        due("no sorts, none told", x.months(), 4095);
        x.tell(2, 1);
        due("no sorts, one told", x.months(), 0);
        for (int m = 0; m < 12; m++) {
            x = feetOnly(1, 0, 1);
            fence(x, "see 1 m=" + m);
            x.tell(0, 2);
            due("in month " + m + " alone", x.months(), 1 << m);
            x.tell(0, 1);
            due("in all but month " + m, x.months(), 4095 - (1 << m));
            x.month(m);
            due("in all but month " + m + ", which it is", x.months(), 4095 - (1 << m));
            due("it is month " + m + " still", x.told(1), m);
        }
        x = feetOnly(1, 0, 1);
        fence(x, "see 1 m>11");
        x.tell(0, 2);
        due("there is no month 12", x.months(), 0);
        x.tell(0, 1);
        due("it shows one in all", x.months(), 4095);
        for (int h = 0; h < 3; h++) {
            x = new FeetHorns();
            sorts(x, BEAST, 0, shows(1, 1, 1), 0, 1);
            tellAll(x, 1, 1, 1);
            due("as told by all", x.months(), 4095);
            x.tell(h, 0);
            due("hole " + h + " is otherwise", x.months(), 0);
            x.tell(h, -1);
            due("nothing told for hole " + h, x.months(), 4095);
        }

        sentence(19, "CALF: as BEAST, but no horns, if MONTH is below 5.");
        x = new FeetHorns();
        sorts(x, CALF, 0, shows(4, 2, 1), 0, 1);
        x.tell(1, 0);
        due("months 0 to 4", x.months(), (1 << 5) - 1);
        x.tell(1, 2);
        due("months 5 to 11", x.months(), 4095 - 31);

        sentence(19, "at MONTH modulo 3");
        x = new FeetHorns();
        sorts(x, TOLD, 0, shows(0, 0, 0), 0, 1);
        x.row(0, 2, 6);
        x.tell(2, 6);
        due("months 2, 5, 8, 11", x.months(), 1 << 2 | 1 << 5 | 1 << 8 | 1 << 11);
        x.tell(2, 0);
        due("the others", x.months(), 4095 - (1 << 2 | 1 << 5 | 1 << 8 | 1 << 11));
    }
}

/** Promises 20 to 34: each sentence that names a boundary, on both sides of it. */
public final class BoundariesOfTapes extends Sentences {
    private static final int BYTES = 0, SHORTS = 1, INTS = 2, LONGS = 3, BOOLEANS = 4;

    public static void main(String[] args) {
        odds();
        mean();
        book();
        looked();
        judge();
        judgeBeyond();
        imageAndUndo();
        act();
        actWraps();
        trace();
        taken();
        count();
        tape();
        item();
        read();
        shift();
        shiftRefused();
        end(20, 34);
    }

    // ---- 20, 21

    private static void odds() {
        sentence(20, "how likely there is any beast of it: a fraction in lowest terms (NO: none fits).");
        FeetHorns x = ofOneFoot(1);
        dueFraction("8 of 9", x, true, 0, 8, 9);
        fence(x, "most 3");
        dueFraction("3 of 4", x, true, 0, 3, 4);
        fence(x, "most 0");
        dueFraction("0 of 1", x, true, 0, 0, 1);
        x = ofOneFoot(2);
        x.tell(0, 1);
        dueFraction("1 of 2", x, true, 1, 1, 2);
        x.tell(0, 0);
        dueFraction("none of it: 0 of 1", x, true, 1, 0, 1);
        x.tell(0, 3);
        dueFraction("3 of 4", x, true, 1, 3, 4);
        x.tell(0, 8);
        dueFraction("8 of 9", x, true, 1, 8, 9);
        x.tell(0, 9);
        dueFraction("none fits", x, true, 1, NO, NO);
        x = ofOneFoot(3);
        x.tell(0, 2);
        dueFraction("3 of 6", x, true, 2, 1, 2);
        x.tell(0, 5);
        dueFraction("15 of 21", x, true, 0, 5, 7);
        x = ofOneFoot(1);
        x.tell(0, 4);
        dueFraction("1 of 1", x, true, 0, 1, 1);

        sentence(20, "ODDS; part 0 above, 1 below the line. NO.");
        noSuchFraction(true);
    }

    private static void mean() {
        sentence(21, "MEAN of it: how many of it these have in the mean (NO likewise).");
        FeetHorns x = ofOneFoot(1);
        dueFraction("36 of 9", x, false, 0, 4, 1);
        fence(x, "most 3");
        dueFraction("6 of 4", x, false, 0, 3, 2);
        fence(x, "most 0");
        dueFraction("0 of 1", x, false, 0, 0, 1);
        x = ofOneFoot(2);
        x.tell(0, 1);
        dueFraction("1 of 2", x, false, 0, 1, 2);
        x.tell(0, 0);
        dueFraction("none of it: 0 of 1", x, false, 0, 0, 1);
        x.tell(0, 8);
        dueFraction("36 of 9", x, false, 1, 4, 1);
        x.tell(0, 9);
        dueFraction("none fits", x, false, 1, NO, NO);
        x = ofOneFoot(3);
        x.tell(0, 2);
        dueFraction("4 of 6", x, false, 1, 2, 3);
        x = ofOneFoot(1);
        x.tell(0, 8);
        dueFraction("8 of 1", x, false, 0, 8, 1);

        sentence(21, "MEAN; part likewise. NO.");
        noSuchFraction(false);
    }

    private static void dueFraction(String what, FeetHorns x, boolean isOdds, int sort, long above, long below) {
        due(what + ": above", isOdds ? x.odds(sort, 0) : x.mean(sort, 0), above);
        due(what + ": below", isOdds ? x.odds(sort, 1) : x.mean(sort, 1), below);
    }

    private static void noSuchFraction(boolean isOdds) {
        FeetHorns x = ofOneFoot(0);
        dueFraction("no sorts", x, isOdds, 0, NO, NO);
        x = ofOneFoot(2);
        x.tell(0, 1);
        dueFraction("sort -1", x, isOdds, -1, NO, NO);
        dueFraction("sort 0", x, isOdds, 0, 1, 2);
        dueFraction("sort 1", x, isOdds, 1, 1, 2);
        dueFraction("sort 2", x, isOdds, 2, NO, NO);
        dueFraction("sort MIN", x, isOdds, MIN, NO, NO);
        dueFraction("sort MAX", x, isOdds, MAX, NO, NO);
        for (int part : new int[] {-1, 2, MIN, MAX}) {
            due("part " + part, isOdds ? x.odds(0, part) : x.mean(0, part), NO);
        }
    }

    // ---- 22, 23

    private static void book() {
        sentence(22, "A row comes to the BOOK: how many there are (hole -1: it is empty then, 0, whatever the other is).");
        FeetHorns x = new FeetHorns();
        due("empty", x.count(2), 0);
        due("one", x.book(0, 0), 1);
        due("two", x.book(0, 0), 2);
        for (int n : new int[] {0, -1, 1000, MIN, MAX}) {
            x.book(0, 0);
            due("emptied with " + n, x.book(-1, n), 0);
            due("none are left", x.count(2), 0);
        }
        due("one again", x.book(0, 0), 1);

        sentence(22, "NONE; BAD: n;");
        for (int h : new int[] {-2, 3, MIN, MAX}) {
            due("hole " + h, x.book(h, 0), -1);
            due("hole " + h + " ahead of n", x.book(h, 1000), -1);
        }
        due("still one", x.count(2), 1);
        due("hole 2", x.book(2, 0), 2);

        sentence(22, "a HOLE and a number (0 .. 999), 12 at most");
        for (int n : new int[] {-1, 1000, MIN, MAX}) {
            due(n + " is bad", x.book(1, n), -2);
        }
        due("still two", x.count(2), 2);
        due("0", x.book(1, 0), 3);
        due("999", x.book(1, 999), 4);

        sentence(22, "FULL: 12.");
        for (int i = 5; i <= 12; i++) {
            due("row " + i, x.book(0, 0), i);
        }
        due("row 13", x.book(0, 0), -4);
        due("still twelve", x.count(2), 12);
        due("hole ahead of full", x.book(3, 0), -1);
        due("n ahead of full", x.book(0, 1000), -2);
        due("emptied, full or not", x.book(-1, 0), 0);
        due("there is room again", x.book(0, 0), 1);
    }

    private static void looked() {
        sentence(23, "LOOKED at: the first that is not COUNT of THE HERD by it (-5: none).");
        FeetHorns x = new FeetHorns();
        sorts(x, BEAST, 0, shows(2, 3, 4), 0, 1);
        due("no rows", x.looked(), -5);
        x.book(0, 2);
        x.book(1, 3);
        x.book(2, 4);
        due("all are", x.looked(), -5);
        for (int h = 0; h < 3; h++) {
            for (int n : new int[] {1 + h, 3 + h}) {
                x.book(-1, 0);
                x.book(h, n);
                due("hole " + h + " of " + n, x.looked(), 0);
            }
            x.book(-1, 0);
            x.book(h, 2 + h);
            due("hole " + h + " of " + (2 + h), x.looked(), -5);
        }
        for (int at = 0; at < 12; at++) {
            x.book(-1, 0);
            for (int i = 0; i < 12; i++) {
                x.book(0, i == at ? 3 : 2);
            }
            due("but row " + at + " all are", x.looked(), at);
        }
        x.book(-1, 0);
        for (int i = 0; i < 12; i++) {
            x.book(0, 2);
        }
        due("all twelve are", x.looked(), -5);
        x.herd(0, 0, 2);
        due("none is: the first", x.looked(), 0);

        x = ofOneFoot(1);
        fence(x, "see 99 h=0;see 11 h=0");
        x.herd(0, 0, 9);
        x.book(0, 999);
        due("999 are", x.looked(), -5);
        x.book(0, 998);
        due("998 are not", x.looked(), 1);
        x = new FeetHorns();
        x.book(1, 0);
        due("no sorts, none", x.looked(), -5);
        x.book(1, 1);
        due("no sorts, one", x.looked(), 1);
    }

    // ---- 24

    /** Three sorts, of which the herd has 4, 0 and 12, and a row of seven bytes that tells so from place 2 on. */
    private static FeetHorns judged() {
        FeetHorns x = ofOneFoot(3);
        x.herd(0, 0, 4);
        x.herd(2, 0, 12);
        x.tape(0, BYTES, 7);
        x.item(0, 1, 99);
        x.item(0, 2, 4);
        x.item(0, 4, 12);
        return x;
    }

    private static void judge() {
        sentence(24, "THE HERD told by a row of bytes, from a place on, SORT by SORT, is JUDGED: the first of which it is otherwise; "
            + "-5: none, or there is none to look at;");
        FeetHorns x = judged();
        due("as told", x.judge(0, 2), -5);
        due("one place less: sort 0", x.judge(0, 1), 0);
        due("one place more: sort 0", x.judge(0, 3), 0);
        for (int s = 0; s < 3; s++) {
            int n = x.of(s, 7);
            x.item(0, 2 + s, n + 1);
            due("one more of sort " + s, x.judge(0, 2), s);
            x.item(0, 2 + s, n - 1);
            due("one less of sort " + s, x.judge(0, 2), s);
            x.item(0, 2 + s, n + 256);
            due("bytes wrap", x.judge(0, 2), -5);
            x.item(0, 2 + s, n);
        }
        x.item(0, 3, 1);
        x.item(0, 4, 1);
        due("two are otherwise: the first", x.judge(0, 2), 1);
        x.herd(0, 1, 9);
        due("the second herd does not matter", x.judge(0, 2), 1);

        x = new FeetHorns();
        x.tape(0, BYTES, 2);
        x.tape(1, BYTES, 0);
        due("no sorts", x.judge(0, 0), -5);
        due("no sorts, an empty row", x.judge(1, 0), -5);
        due("no sorts, nothing", x.judge(2, 0), -5);
        due("no sorts, beyond the row", x.judge(0, 2), -5);
        due("no sorts, below 0", x.judge(0, -1), -5);
        x.sort(BEAST, 0, 0, 0, 0, 0);
        due("a sort", x.judge(0, 0), -5);
        due("a sort, an empty row", x.judge(1, 0), 100);
        due("a sort, nothing", x.judge(2, 0), 100);
        due("a sort, beyond the row", x.judge(0, 2), 100);
        due("a sort, below 0", x.judge(0, -1), 100);

        sentence(24, "JUDGED from place i of a TAPE on. NONE: tape; CAST: it is no row of bytes.");
        x = judged();
        for (int t : new int[] {-1, 6, MIN, MAX}) {
            due("tape " + t, x.judge(t, 2), -1);
        }
        x.tape(5, BYTES, 0);
        due("tape 5", x.judge(5, 0), 100);
        for (int sort = BYTES; sort <= BOOLEANS; sort++) {
            x.tape(1, sort, 7);
            due("a row of sort " + sort, x.judge(1, 0), sort == BYTES ? 0 : -12);
            due("a row of sort " + sort + ", below 0", x.judge(1, -1), sort == BYTES ? 100 : -12);
            due("a row of sort " + sort + ", beyond it", x.judge(1, 7), sort == BYTES ? 100 : -12);
        }
        FeetHorns y = new FeetHorns();
        y.tape(1, SHORTS, 7);
        due("no sorts, a row of shorts", y.judge(1, 0), -12);
    }

    private static void judgeBeyond() {
        sentence(24, "100 and how many were looked at, if the row ends ahead of that (or the place is below 0, or the TAPE holds nothing)");
        for (int length = 0; length <= 6; length++) {
            FeetHorns x = judged();
            x.tape(1, BYTES, length);
            x.shift(0, 2, 1, 0, Math.min(3, length));
            due("a row of " + length + " from its start", x.judge(1, 0), length < 3 ? 100 + length : -5);
        }
        FeetHorns x = judged();
        x.herd(0, 0, 0);
        x.herd(2, 0, 0);
        x.tape(0, BYTES, 7);
        int[] dues = {-5, -5, -5, -5, -5, 102, 101, 100, 100};
        for (int i = 0; i < dues.length; i++) {
            due("a row of seven from " + i, x.judge(0, i), dues[i]);
        }
        for (int i : new int[] {-1, -2, -7, MIN, MIN + 1, MAX, MAX - 1, MAX - 2}) {
            due("a row of seven from " + i, x.judge(0, i), 100);
        }
        x.item(0, 6, 1);
        due("otherwise ahead of the end", x.judge(0, 5), 1);
        due("otherwise at the end", x.judge(0, 6), 0);
        due("nothing", x.judge(1, 0), 100);
        x.tape(0, -1, 0);
        due("nothing any more", x.judge(0, 0), 100);
        x = ofOneFoot(5);
        x.tape(0, BYTES, 60);
        due("five of five", x.judge(0, 55), -5);
        due("four of five", x.judge(0, 56), 104);
    }

    // ---- 25, 26

    private static void imageAndUndo() {
        sentence(25, "THE IMAGE is taken: how many SORTS there are.");
        for (int sorts = 0; sorts <= 5; sorts++) {
            FeetHorns x = ofOneFoot(sorts);
            due(sorts + " sorts", x.image(), sorts);
            due(sorts + " sorts again", x.image(), sorts);
        }

        sentence(26, "All is as THE IMAGE: how many SORTS. STATE: there is none.");
        FeetHorns x = ofOneFoot(2);
        due("none", x.undo(), -3);
        due("nothing is otherwise", x.count(0), 2);
        x.image();
        due("one", x.undo(), 2);
        x.sort(BEAST, 0, 0, 0, 0, 0);
        due("a sort came", x.undo(), 2);
        due("it is gone", x.count(0), 2);
        due("once more", x.undo(), 2);
        x.sort(BEAST, 0, 0, 0, 0, 0);
        x.image();
        due("the latest image", x.undo(), 3);

        sentence(26, "THE IMAGE: SORTS with all that is theirs, THE HERD, the second one, MONTH, what is TOLD, the BOOK, which FENCE holds.");
        undoneOneByOne();
        undoneSorts();
        undoneFences();
        notUndone();
    }

    private static FeetHorns pictured() {
        FeetHorns x = new FeetHorns();
        x.sort(TOLD, 1, 2, 3, 4, 5);
        x.row(0, 1, 6);
        x.herd(0, 0, 7);
        x.herd(0, 1, 8);
        x.month(9);
        tellAll(x, 10, -1, 11);
        x.book(2, 12);
        fence(x, "most 3");
        x.image();
        return x;
    }

    private static void undoneOneByOne() {
        FeetHorns x = pictured();
        x.row(0, 1, 0);
        x.undo();
        due("its row", x.row(0, 1, 6), 6);
        x.herd(0, 0, 0);
        x.undo();
        due("the herd", x.of(0, 7), 7);
        x.herd(0, 1, 0);
        x.undo();
        due("the second herd", x.of(0, 8), 8);
        x.month(0);
        x.undo();
        due("the month", x.told(1), 9);
        tellAll(x, -1, 0, 0);
        x.undo();
        due("told feet", x.told(30), 10);
        due("told horns, nothing", x.told(31), -5);
        due("told tails", x.told(32), 11);
        x.book(0, 0);
        x.undo();
        due("a row that came to the book", x.count(2), 1);
        x.book(-1, 0);
        x.undo();
        due("a book that was emptied", x.count(2), 1);
        x.book(-1, 0);
        x.book(0, x.told(10));
        x.undo();
        due("the book's row itself", x.looked(), 0);
        undoneBook();
        x.month(10);
        x.image();
        x.month(11);
        x.undo();
        due("the month of a later image", x.told(1), 10);
    }

    /** The book of the image is right; hole and number of a row come back, each by itself. */
    private static void undoneBook() {
        FeetHorns x = new FeetHorns();
        sorts(x, BEAST, 0, shows(2, 3, 4), 0, 1);
        for (int i = 0; i < 12; i++) {
            x.book(i % 3, 2 + i % 3);
        }
        x.image();
        due("the image's book is right", x.looked(), -5);
        for (int at = 0; at < 12; at++) {
            for (int isHole = 0; isHole < 2; isHole++) {
                x.book(-1, 0);
                for (int i = 0; i < 12; i++) {
                    int other = i == at ? 1 : 0;
                    x.book((i + other * isHole) % 3, 2 + i % 3 + other * (1 - isHole));
                }
                due("row " + at + " is otherwise", x.looked(), at);
                x.undo();
                due("row " + at + " is as it was", x.looked(), -5);
            }
        }
    }

    private static void undoneSorts() {
        FeetHorns x = pictured();
        x.sort(CALF, 9, 9, 9, 9, 99);
        x.herd(1, 0, 12);
        x.herd(1, 1, 12);
        due("two sorts", x.count(0), 2);
        due("one is gone", x.undo(), 1);
        due("none of it", x.of(1, 7), -1);
        for (int what = 0; what < 6; what++) {
            due("the first stays, " + what, x.of(0, what), new int[] {TOLD, 1, 2, 3, 4, 5}[what]);
        }
        due("another comes", x.sort(TOLD, 0, 0, 0, 0, 0), 1);
        due("none of it in the herd", x.of(1, 7), 0);
        due("none of it in the second one", x.of(1, 8), 0);
        due("its row is new", x.row(1, 0, 5), 0);
        x.undo();
        x.sort(TOLD, 0, 0, 0, 0, 0);
        due("its row is new again", x.row(1, 0, 5), 0);
        x = new FeetHorns();
        x.image();
        x.sort(TOLD, 0, 0, 0, 0, 0);
        x.herd(0, 0, 1);
        due("none are left", x.undo(), 0);
        due("none fit but no beasts", x.fits(0), 1);
    }

    private static void undoneFences() {
        FeetHorns x = pictured();
        fence(x, "most 5");
        due("the newest holds", x.told(0), 5);
        x.undo();
        due("that of the image holds", x.told(0), 3);
        due("the fences stay", x.count(1), 2);
        due("the next has the next number", fence(x, "most 6"), 2);
        for (int f = 3; f < 6; f++) {
            fence(x, "most 7");
        }
        x.undo();
        due("that of the image holds again", x.told(0), 3);
        feedAll(x, "most 1");
        due("there are six", x.fence(), -4);
        x = new FeetHorns();
        x.image();
        fence(x, "most 5");
        x.undo();
        due("none holds", x.told(0), 8);
        due("but there is one", x.count(1), 1);
    }

    private static void notUndone() {
        FeetHorns x = pictured();
        x.tape(0, INTS, 1);
        x.item(0, 0, 77);
        x.act(0, 0, 0);
        feedAll(x, "most");
        x.undo();
        due("a tape stays", x.read(0, 0), 77);
        due("the text stays", x.count(3), 4);
        due("the trace stays", x.count(4), 2);
        x.tape(0, -1, 0);
        x.undo();
        due("a tape that holds nothing stays so", x.read(0, 0), NO);
    }

    // ---- 27, 28

    private static FeetHorns oneOf(int kind, int v) {
        FeetHorns x = new FeetHorns();
        x.sort(kind, v, 0, 0, 0, 0);
        return x;
    }

    private static void act() {
        sentence(27, "An ACT (0 goes, 1 shows, 2 tells) of a SORT with x. 0, and no TRACE then: no such SORT, act.");
        FeetHorns x = oneOf(BEAST, 3);
        int[] dues = {10, 7, 14};
        for (int act = 0; act < 3; act++) {
            due("act " + act, x.act(0, act, 10), dues[act]);
            due("bodies of act " + act, x.count(4), act + 1);
            for (int no : new int[] {-1, 3, MIN, MAX}) {
                x.act(0, act, 10);
                due("act " + no, x.act(0, no, 10), 0);
                due("no trace then", x.count(4), 0);
                due("nothing at 0 then", x.trace(0), -1);
                x.act(0, act, 10);
                due("sort " + (no == 3 ? 1 : no), x.act(no == 3 ? 1 : no, act, 10), 0);
                due("no trace then, too", x.count(4), 0);
                due("nothing at 0 then, too", x.trace(0), -1);
            }
        }
        for (int s = 1; s < 5; s++) {
            due("sort " + s + ", ahead", x.act(s, 0, 10), 0);
            x.sort(BEAST, 0, 0, 0, 0, 0);
            due("sort " + s + ", then", x.act(s, 0, 10), 10 + s);
        }

        sentence(27, "or, if that has none, of the next KIND above that has one");
        int[][] first = {{10, 11, 12}, {10, 20, 12}, {30, 11, 12}, {10, 11, 40}, {50, 51, 12}, {30, 11, 60}, {71, 70, 40}};
        for (int kind = 0; kind < 7; kind++) {
            for (int act = 0; act < 3; act++) {
                x = oneOf(kind, 0);
                x.act(0, act, 1);
                due("kind " + kind + ", act " + act, x.trace(0), first[kind][act]);
            }
        }
        // goes, shows and tells of 5 by each kind, v 4, as sort 2
        int[][] fives = {{7, 3, 6}, {7, 3 ^ 6, 2 * (3 ^ 6)}, {17, 13, 26}, {7, 3, 6 + (3 - 4)}, {-7, (-8 - 4) ^ 6, 2 * ((-8 - 4) ^ 6)},
            {17, 13, 2 * (9 + 2 - 4)}, {7 ^ 4, (7 ^ 4) - 4 + 4, 2 * ((7 ^ 4) - 4 + 4) + ((3 ^ 4) - 4 + 4)}};
        for (int kind = 0; kind < 7; kind++) {
            for (int act = 0; act < 3; act++) {
                x = ofOneFoot(2);
                x.sort(kind, 4, 0, 0, 0, 0);
                due("kind " + kind + ", act " + act + " of 5", x.act(2, act, 5), fives[kind][act]);
            }
        }
    }

    private static void actWraps() {
        sentence(27, "ACTS of a SORT with x (wrapping)");
        FeetHorns x = oneOf(BEAST, 0);
        x.sort(BEAST, 1, 0, 0, 0, 0);
        due("goes: x", x.act(0, 0, MAX), MAX);
        due("goes: x + 1", x.act(1, 0, MAX), MIN);
        due("shows: x - 0", x.act(0, 1, MIN), MIN);
        due("shows: x + 1 - 1", x.act(1, 1, MAX), MAX);
        due("shows: x + 1 - 1, MIN", x.act(1, 1, MIN), MIN);
        due("tells: twice, below", x.act(0, 2, (1 << 30) - 1), MAX - 1);
        due("tells: twice, beyond", x.act(0, 2, 1 << 30), MIN);
        due("tells: twice, below 0", x.act(0, 2, -(1 << 30)), MIN);
        due("tells: twice, beyond below 0", x.act(0, 2, -(1 << 30) - 1), MAX - 1);
        x = oneOf(BEAST, 1);
        due("shows: x - 1", x.act(0, 1, MIN + 1), MIN);
        due("shows: x - 1, beyond", x.act(0, 1, MIN), MAX);
        x = oneOf(CALF, 0);
        due("CALF: three times", x.act(0, 0, 715827882), MAX - 1);
        due("CALF: three times, beyond", x.act(0, 0, 715827883), MIN + 1);
        x = oneOf(PROUD, 0);
        due("PROUD: less than 0", x.act(0, 0, MIN + 1), MAX);
        due("PROUD: less than 0, beyond", x.act(0, 0, MIN), MIN);
        due("PROUD: x + 1", x.act(0, 1, MAX - 1), -MAX ^ 6);
        due("PROUD: x + 1, beyond", x.act(0, 1, MAX), MIN ^ 6);
        x = oneOf(BEAST, 0);
        x.sort(HIDDEN, 0, 0, 0, 0, 0);
        due("HIDDEN: x - i", x.act(1, 2, MIN + 1), 2 * (3 * MIN + 1));
        due("HIDDEN: x - i, beyond", x.act(1, 2, MIN), 2 * (3 * MAX + 1));
        x = oneOf(LAME, 0);
        due("LAME: and one", x.act(0, 2, MAX / 2), MAX);
        due("LAME: and one, twice beyond", x.act(0, 2, MAX / 2 + 1), MIN + 1);
        x = oneOf(TOLD, 0);
        due("TOLD: and two", x.act(0, 1, MAX - 2), MAX);
        due("TOLD: and two, beyond", x.act(0, 1, MAX - 1), MIN);
    }

    private static void trace() {
        sentence(28, "THE TRACE's i-th body. NONE.");
        FeetHorns x = oneOf(BEAST, 0);
        due("ahead of all acts", x.trace(0), -1);
        x.act(0, 2, 1);
        int[] dues = {12, 11, 10, -1};
        for (int i = 0; i < dues.length; i++) {
            due("place " + i, x.trace(i), dues[i]);
        }
        for (int i : new int[] {-1, 19, 20, 21, MIN, MAX}) {
            due("place " + i, x.trace(i), -1);
        }

        sentence(28, "the numbers of the bodies that ran in the latest act(), as they began");
        x.act(0, 0, 1);
        due("a shorter one: 0", x.trace(0), 10);
        due("a shorter one: 1", x.trace(1), -1);
        x.act(0, 1, 1);
        due("a longer one: 1", x.trace(1), 10);
        due("a longer one: 2", x.trace(2), -1);
        x.image();
        x.undo();
        x.fits(0);
        due("other calls run none", x.count(4), 2);

        sentence(28, "the first 20 are kept");
        // the longest trace that there is has twelve bodies: so all are kept, and no more than ran
        int longest = 0;
        for (int kind = 0; kind < 7; kind++) {
            for (int act = 0; act < 3; act++) {
                x = oneOf(kind, 9);
                x.act(0, act, 1);
                int ran = x.count(4);
                longest = Math.max(longest, ran);
                due("the last of kind " + kind + ", act " + act, x.trace(ran - 1) > 0 ? 1 : 0, 1);
                due("behind it", x.trace(ran), -1);
            }
        }
        due("the longest", longest, 12);
        x = oneOf(TOLD, 0);
        x.act(0, 2, 1);
        int[] all = {40, 12, 70, 11, 71, 10, 10, 70, 11, 71, 10, 10, -1};
        for (int i = 0; i < all.length; i++) {
            due("the longest at " + i, x.trace(i), all[i]);
        }
    }

    // ---- 29, 30

    private static void taken() {
        sentence(29, "A SORT taken for one of KIND k (0 .. 6), or one under that: its KIND. BAD: k; NOTHING: no such SORT; CAST.");
        int[] above = {-1, BEAST, BEAST, BEAST, HORNED, CALF, LAME};
        for (int kind = 0; kind < 7; kind++) {
            FeetHorns x = oneOf(kind, 0);
            for (int k = 0; k < 7; k++) {
                boolean isOne = k == kind || k == BEAST || k == above[kind];
                due("kind " + kind + " for " + k, x.taken(0, k), isOne ? kind : -12);
                due("no such sort for " + k, x.taken(1, k), -11);
                due("sort -1 for " + k, x.taken(-1, k), -11);
            }
            for (int k : new int[] {-1, 7, MIN, MAX}) {
                due("kind " + kind + " for " + k, x.taken(0, k), -2);
                due("no such sort for " + k, x.taken(1, k), -2);
            }
            due("sort MIN", x.taken(MIN, 0), -11);
            due("sort MAX", x.taken(MAX, 0), -11);
            x.sort(kind, 0, 0, 0, 0, 0);
            due("sort 1, once it is there", x.taken(1, kind), kind);
        }
    }

    private static void count() {
        sentence(30, "How many: 0 SORTS, 1 FENCES, 2 rows of the BOOK, 3 bytes of THE TEXT, 4 bodies that ran in the latest act() "
            + "(all, kept or not). BAD.");
        FeetHorns x = new FeetHorns();
        for (int what = 0; what < 5; what++) {
            due("at first, what " + what, x.count(what), 0);
        }
        for (int what : new int[] {-1, 5, MIN, MAX}) {
            due("what " + what, x.count(what), -2);
        }
        for (int i = 1; i <= 5; i++) {
            x.sort(TOLD, 0, 0, 0, 0, 0);
            due("sorts", x.count(0), i);
        }
        x.sort(TOLD, 0, 0, 0, 0, 0);
        due("sorts, full", x.count(0), 5);
        for (int i = 1; i <= 6; i++) {
            fence(x, "most 1");
            due("fences", x.count(1), i);
        }
        for (int i = 1; i <= 12; i++) {
            x.book(0, 0);
            due("rows", x.count(2), i);
        }
        x.book(0, 0);
        due("rows, full", x.count(2), 12);
        for (int i = 1; i <= 100; i++) {
            x.feed(';');
            due("bytes", x.count(3), i);
        }
        x.feed(';');
        x.fence();
        due("bytes, full", x.count(3), 100);
        due("fences, full", x.count(1), 6);
        x.act(0, 2, 1);
        due("bodies", x.count(4), 12);
        x.act(0, 0, 1);
        due("bodies of the latest", x.count(4), 2);
        x.act(5, 0, 1);
        due("no bodies", x.count(4), 0);
    }

    // ---- 31 to 33

    private static void tape() {
        sentence(31, "A TAPE becomes a row of n (0 .. 60) of a sort, all 0, or holds nothing (sort -1: n does not matter): 1.");
        FeetHorns x = new FeetHorns();
        for (int sort = BYTES; sort <= BOOLEANS; sort++) {
            due("a row of 0", x.tape(0, sort, 0), 1);
            due("has no place", x.item(0, 0, 1), -13);
            due("none to read", x.read(0, 0), NO);
            due("a row of 1", x.tape(0, sort, 1), 1);
            due("place 0", x.read(0, 0), 0);
            due("place 1", x.read(0, 1), NO);
            due("a row of 60", x.tape(0, sort, 60), 1);
            due("place 59", x.item(0, 59, 1), 1);
            due("place 60", x.item(0, 60, 1), -13);
            due("a row of 61", x.tape(0, sort, 61), -2);
            due("a row of -1", x.tape(0, sort, -1), -14);
            due("it stays", x.read(0, 59), 1);
            due("a row of 60 again", x.tape(0, sort, 60), 1);
            due("all 0", x.read(0, 59), 0);
        }
        for (int n : new int[] {0, 60, 61, -1, MIN, MAX}) {
            x.tape(0, INTS, 5);
            due("nothing, n " + n, x.tape(0, -1, n), 1);
            due("nothing is there", x.item(0, 0, 1), -11);
            due("nothing again, n " + n, x.tape(0, -1, n), 1);
        }

        sentence(31, "NONE: tape; BAD: sort, n above 60; SIZE.");
        for (int t = 0; t < 6; t++) {
            due("tape " + t, x.tape(t, SHORTS, t), 1);
        }
        for (int t : new int[] {-1, 6, MIN, MAX}) {
            due("tape " + t, x.tape(t, SHORTS, 1), -1);
            due("tape " + t + ", nothing", x.tape(t, -1, 1), -1);
            due("tape " + t + " ahead of sort", x.tape(t, 5, 1), -1);
            due("tape " + t + " ahead of size", x.tape(t, 0, -1), -1);
        }
        for (int sort : new int[] {-2, 5, MIN, MAX}) {
            due("sort " + sort, x.tape(3, sort, 1), -2);
            due("sort " + sort + " ahead of size", x.tape(3, sort, -1), -2);
        }
        due("a size far below", x.tape(3, 0, MIN), -14);
        due("a size far above", x.tape(3, 0, MAX), -2);
        due("tape 3 stays: its last place", x.read(3, 2), 0);
        due("tape 3 stays: behind it", x.read(3, 3), NO);
        due("tape 3 stays: of shorts", x.shift(3, 0, 5, 0, 3), 3);
    }

    private static void item() {
        sentence(32, "Item i of a TAPE becomes v (its lowest bits, as many as an item has; booleans: whether v is not 0): 1.");
        FeetHorns x = new FeetHorns();
        for (int t = BYTES; t <= BOOLEANS; t++) {
            x.tape(t, t, 3);
        }
        dueItem(x, BYTES, 127, 127);
        dueItem(x, BYTES, 128, -128);
        dueItem(x, BYTES, -128, -128);
        dueItem(x, BYTES, -129, 127);
        dueItem(x, BYTES, 255, -1);
        dueItem(x, BYTES, 256, 0);
        dueItem(x, SHORTS, 32767, 32767);
        dueItem(x, SHORTS, 32768, -32768);
        dueItem(x, SHORTS, -32768, -32768);
        dueItem(x, SHORTS, -32769, 32767);
        dueItem(x, SHORTS, 65535, -1);
        dueItem(x, SHORTS, 65536, 0);
        dueItem(x, INTS, MAX, MAX);
        dueItem(x, INTS, MAX + 1L, MIN);
        dueItem(x, INTS, MIN, MIN);
        dueItem(x, INTS, MIN - 1L, MAX);
        dueItem(x, INTS, (1L << 32) - 1, -1);
        dueItem(x, INTS, 1L << 32, 0);
        dueItem(x, LONGS, Long.MAX_VALUE, Long.MAX_VALUE);
        dueItem(x, LONGS, Long.MIN_VALUE + 1, Long.MIN_VALUE + 1);
        dueItem(x, LONGS, Long.MIN_VALUE, Long.MIN_VALUE);
        dueItem(x, BOOLEANS, 1, 1);
        dueItem(x, BOOLEANS, 0, 0);
        dueItem(x, BOOLEANS, -1, 1);
        dueItem(x, BOOLEANS, 2, 1);
        dueItem(x, BOOLEANS, 256, 1);
        dueItem(x, BOOLEANS, 1L << 32, 1);
        dueItem(x, BOOLEANS, Long.MIN_VALUE, 1);

        sentence(32, "NONE; NOTHING; PLACE.");
        for (int t = BYTES; t <= BOOLEANS; t++) {
            due("place 0", x.item(t, 0, 1), 1);
            due("place 2", x.item(t, 2, 1), 1);
            for (int i : new int[] {-1, 3, MIN, MAX}) {
                due("place " + i, x.item(t, i, 1), -13);
            }
        }
        due("nothing", x.item(5, 0, 1), -11);
        due("nothing ahead of place", x.item(5, -1, 1), -11);
        for (int t : new int[] {-1, 6, MIN, MAX}) {
            due("tape " + t, x.item(t, 0, 1), -1);
            due("tape " + t + " ahead of place", x.item(t, -1, 1), -1);
        }
        x.tape(5, LONGS, 0);
        due("a row of none", x.item(5, 0, 1), -13);
        x.tape(5, LONGS, 1);
        due("a row of one", x.item(5, 0, 1), 1);
    }

    private static void dueItem(FeetHorns x, int tape, long v, long want) {
        x.item(tape, 0, 1);
        x.item(tape, 2, 0);
        due(v + " put", x.item(tape, 1, v), 1);
        due(v + " read", x.read(tape, 1), want);
        due("the one ahead", x.read(tape, 0), 1);
        due("the one behind", x.read(tape, 2), 0);
    }

    private static void read() {
        sentence(33, "Item i of a TAPE. NO: no such TAPE, nothing there, no such place.");
        FeetHorns x = new FeetHorns();
        for (int t = 0; t < 6; t++) {
            due("nothing there", x.read(t, 0), NO);
            x.tape(t, INTS, t + 1);
            x.item(t, t, 70 + t);
            due("the last place", x.read(t, t), 70 + t);
            due("the first place", x.read(t, 0), t == 0 ? 70 : 0);
            for (int i : new int[] {-1, t + 1, 60, MIN, MAX}) {
                due("place " + i, x.read(t, i), NO);
            }
            x.tape(t, INTS, t);
            due("the last place, gone", x.read(t, t), NO);
            x.tape(t, -1, 9);
            due("nothing there any more", x.read(t, 0), NO);
            x.tape(t, INTS, 1);
        }
        due("tape 5", x.read(5, 0), 0);
        for (int t : new int[] {-1, 6, MIN, MAX}) {
            due("tape " + t, x.read(t, 0), NO);
        }
    }

    // ---- 34

    /** Tape 0: the ints 1 to 6; tape 1: three ints; tape 2: a row of none; tapes 3, 4: bytes, longs; tape 5: nothing. */
    private static FeetHorns rows() {
        FeetHorns x = new FeetHorns();
        x.tape(0, INTS, 6);
        for (int i = 0; i < 6; i++) {
            x.item(0, i, i + 1);
        }
        x.tape(1, INTS, 3);
        x.tape(2, INTS, 0);
        x.tape(3, BYTES, 6);
        x.tape(4, LONGS, 6);
        return x;
    }

    /** The items of a row, as digits. */
    private static long digits(FeetHorns x, int tape, int length) {
        long all = 0;
        for (int i = 0; i < length; i++) {
            all = 10 * all + x.read(tape, i);
        }
        return all;
    }

    private static void shift() {
        sentence(34, "n items of a TAPE from i on come to another one (or the same) from j on, as they all were before: n.");
        FeetHorns x = rows();
        due("three", x.shift(0, 3, 1, 0, 3), 3);
        due("the other", digits(x, 1, 3), 456);
        due("the one itself", digits(x, 0, 6), 123456);
        due("one", x.shift(0, 0, 1, 1, 1), 1);
        due("the other", digits(x, 1, 3), 416);
        due("none", x.shift(0, 0, 1, 0, 0), 0);
        due("the other", digits(x, 1, 3), 416);
        long[] up = {123456, 112345, 121234, 123123, 123412, 123451};
        long[] down = {123456, 234566, 345656, 456456, 563456, 623456};
        for (int by = 0; by < 6; by++) {
            x = rows();
            due("up by " + by, x.shift(0, 0, 0, by, 6 - by), 6 - by);
            due("up by " + by + " then", digits(x, 0, 6), up[by]);
            x = rows();
            due("down by " + by, x.shift(0, by, 0, 0, 6 - by), 6 - by);
            due("down by " + by + " then", digits(x, 0, 6), down[by]);
        }
        x = new FeetHorns();
        x.tape(0, BYTES, 60);
        x.tape(5, BYTES, 60);
        x.item(0, 59, -1);
        due("sixty", x.shift(0, 0, 5, 0, 60), 60);
        due("the last of sixty", x.read(5, 59), -1);
    }

    private static void shiftRefused() {
        sentence(34, "PLACE: n, i or j is below 0, or beyond either's end.");
        FeetHorns x = rows();
        due("all six", x.shift(0, 0, 0, 0, 6), 6);
        due("seven", x.shift(0, 0, 0, 0, 7), -13);
        due("all six from 1 on", x.shift(0, 1, 0, 0, 6), -13);
        due("all six to 1 on", x.shift(0, 0, 0, 1, 6), -13);
        due("four to three", x.shift(0, 0, 1, 0, 4), -13);
        due("three to three from 1 on", x.shift(0, 0, 1, 1, 3), -13);
        due("four of three", x.shift(1, 0, 0, 0, 4), -13);
        due("none from the end to the end", x.shift(0, 6, 1, 3, 0), 0);
        due("none from beyond the end", x.shift(0, 7, 1, 3, 0), -13);
        due("none to beyond the end", x.shift(0, 6, 1, 4, 0), -13);
        due("none of a row of none", x.shift(2, 0, 2, 0, 0), 0);
        due("one of a row of none", x.shift(2, 0, 0, 0, 1), -13);
        due("one to a row of none", x.shift(0, 0, 2, 0, 1), -13);
        for (int far : new int[] {-1, MIN, MAX}) {
            due("n " + far, x.shift(0, 0, 1, 0, far), -13);
            due("i " + far, x.shift(0, far, 1, 0, 1), -13);
            due("j " + far, x.shift(0, 0, 1, far, 1), -13);
            due("i " + far + " and n 0", x.shift(0, far, 1, 0, 0), -13);
            due("j " + far + " and n 0", x.shift(0, 0, 1, far, 0), -13);
            due("i and n " + far, x.shift(0, far, 1, 0, far), -13);
            due("j and n " + far, x.shift(0, 0, 1, far, far), -13);
            due("all " + far, x.shift(0, far, 1, far, far), -13);
        }
        due("n -1 of one", x.shift(0, 1, 1, 1, -1), -13);
        due("none came", digits(x, 1, 3), 0);
        due("the row stays", digits(x, 0, 6), 123456);

        sentence(34, "CAST: of unlike sorts;");
        due("ints to bytes", x.shift(0, 0, 3, 0, 1), -12);
        due("ints to longs", x.shift(0, 0, 4, 0, 1), -12);
        due("bytes to longs, none", x.shift(3, 0, 4, 0, 0), -12);
        due("unlike ahead of place", x.shift(0, 7, 3, -1, -1), -12);
        due("ints to ints", x.shift(0, 0, 1, 0, 1), 1);
        for (int from = BYTES; from <= BOOLEANS; from++) {
            for (int to = BYTES; to <= BOOLEANS; to++) {
                x = new FeetHorns();
                x.tape(0, from, 1);
                x.tape(1, to, 1);
                due(from + " to " + to, x.shift(0, 0, 1, 0, 1), from == to ? 1 : -12);
            }
        }

        sentence(34, "NONE: tapes; NOTHING;");
        x = rows();
        due("nothing to take", x.shift(5, 0, 0, 0, 0), -11);
        due("nothing to come to", x.shift(0, 0, 5, 0, 0), -11);
        due("nothing to nothing", x.shift(5, 0, 5, 0, 0), -11);
        due("nothing ahead of place", x.shift(0, -1, 5, 0, 0), -11);
        x.tape(5, INTS, 0);
        due("a row of none", x.shift(5, 0, 0, 0, 0), 0);
        for (int t : new int[] {-1, 6, MIN, MAX}) {
            due("tape " + t, x.shift(t, 0, 0, 0, 0), -1);
            due("other " + t, x.shift(0, 0, t, 0, 0), -1);
            x.tape(5, -1, 0);
            due("tape " + t + " ahead of nothing", x.shift(t, 0, 5, 0, 0), -1);
            due("other " + t + " ahead of nothing", x.shift(5, 0, t, 0, 0), -1);
        }
    }
}

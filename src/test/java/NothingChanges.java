import java.util.Arrays;

/** What is refused and what is asked changes nothing: all that can be seen of an object is as of a twin without the call. */
public final class NothingChanges extends Sentences {
    private static final String REFUSED = "What is answered so changes nothing;";
    private static final String ASKED = "what is asked changes nothing.";

    private interface Call {
        long on(FeetHorns x);
    }

    public static void main(String[] args) {
        refusedSorts();
        refusedFences();
        refusedTapes();
        refusedAsks();
        refusedActs();
        asked();
        askedInAnyOrder();
        end(2, 34);
    }

    // ---- objects, and all that can be seen of one

    /** There is room for one more of everything. */
    private static FeetHorns half() {
        FeetHorns x = new FeetHorns();
        sorts(x, TOLD, 3, shows(2, 1, 0), 7, 2);
        sorts(x, HIDDEN, 4, shows(4, 2, 1), 9, 3);
        sorts(x, PROUD, 5, shows(1, 1, 2), 11, 1);
        x.row(0, 0, 1);
        x.row(0, 1, 2);
        x.row(0, 2, 3);
        x.herd(1, 1, 2);
        fence(x, "owe 1 k=4;see 1 h=2&!m>6;most 6");
        x.month(8);
        tellAll(x, x.told(10), -1, -1);
        x.book(0, x.told(10));
        x.book(1, 999);
        x.image();
        fence(x, "owe 2 s<2;most 5");
        x.herd(2, 0, 2);
        x.month(7);
        x.tell(0, x.told(10));
        x.book(2, x.told(12));
        feedAll(x, "owe 3 s=1;most 7");
        x.act(0, 2, 5);
        x.tape(0, 0, 4);
        x.item(0, 0, 2);
        x.item(0, 1, 3);
        x.item(0, 2, 2);
        x.tape(1, 2, 3);
        x.item(1, 1, 70);
        x.tape(2, 2, 4);
        x.item(2, 2, 71);
        x.tape(3, 4, 2);
        return x;
    }

    /** There is no room for one more of anything. */
    private static FeetHorns full() {
        FeetHorns x = half();
        x.fence();
        sorts(x, LAME, 1, shows(1, 0, 0), 1, 0);
        sorts(x, CALF, 2, shows(2, 2, 2), 2, 1);
        for (int i = 3; i < 6; i++) {
            fence(x, "owe " + i + " s=" + i + ";most 4");
        }
        for (int i = 3; i < 12; i++) {
            x.book(0, i);
        }
        feedAll(x, "owe 4 " + times(23, "s=1", "&") + "|s=");
        return x;
    }

    private static final class Seen {
        private long[] all = new long[0];

        void add(long n) {
            all = Arrays.copyOf(all, all.length + 1);
            all[all.length - 1] = n;
        }
    }

    /** All that can be seen; what is seen by a change comes last. */
    private static long[] seen(FeetHorns x) {
        Seen seen = new Seen();
        trace(seen, x);
        state(seen, x);
        for (int t = 0; t < 6; t++) {
            // which sort of row a tape is: as those have that are like it
            for (int other = 0; other < 4; other++) {
                seen.add(x.shift(t, 0, other, 0, 0));
            }
            for (int i = 0; i < 5; i++) {
                seen.add(x.read(t, i));
            }
        }
        seen.add(x.fence());
        seen.add(x.count(1));
        state(seen, x);
        seen.add(x.undo());
        state(seen, x);
        return seen.all;
    }

    private static void trace(Seen seen, FeetHorns x) {
        seen.add(x.count(4));
        for (int i = 0; i < 12; i++) {
            seen.add(x.trace(i));
        }
    }

    private static void state(Seen seen, FeetHorns x) {
        for (int what = 0; what < 4; what++) {
            seen.add(x.count(what));
            seen.add(x.told(what));
        }
        for (int s = 0; s < x.count(0); s++) {
            for (int what : new int[] {0, 1, 2, 3, 4, 5, 6, 7, 8, 10, 11, 12}) {
                seen.add(x.of(s, what));
            }
        }
        for (int h = 0; h < 3; h++) {
            seen.add(x.told(30 + h));
            // a row is seen by what it was
            int was = x.row(0, h, 0);
            seen.add(was);
            x.row(0, h, was);
        }
        seen.add(x.looked());
        seen.add(x.fits(0));
        seen.add(x.judge(0, 0));
    }

    // ---- what is refused

    private static void due(String what, FeetHorns x, FeetHorns twin, Call call, long answer) {
        due(what, call.on(x), answer);
        due(what + " has changed nothing", Arrays.equals(seen(x), seen(twin)) ? 1 : 0, 1);
    }

    private static void refused(String what, Call call, long answer) {
        due(what, half(), half(), call, answer);
    }

    private static void refusedByFull(String what, Call call, long answer) {
        due("full: " + what, full(), full(), call, answer);
    }

    /** The other side: what is not refused is seen. */
    private static void taken(String what, Call call, long answer) {
        FeetHorns x = half();
        due(what, call.on(x), answer);
        due(what + " has changed something", Arrays.equals(seen(x), seen(half())) ? 0 : 1, 1);
    }

    private static void refusedSorts() {
        sentence(2, REFUSED);
        refused("kind 7", x -> x.sort(7, 1, 1, 1, 1, 1), -1);
        refused("v 10", x -> x.sort(1, 10, 1, 1, 1, 1), -2);
        refused("toll 100", x -> x.sort(1, 1, 1, 1, 1, 100), -2);
        refusedByFull("a sort", x -> x.sort(1, 1, 1, 1, 1, 1), -4);
        taken("a sort", x -> x.sort(1, 1, 1, 1, 1, 1), 3);

        sentence(4, REFUSED);
        refused("sort 3", x -> x.herd(3, 0, 5), -1);
        refused("which 2", x -> x.herd(0, 2, 5), -1);
        refused("n 13", x -> x.herd(0, 0, 13), -2);
        refused("n 13 of the second", x -> x.herd(1, 1, 13), -2);
        taken("n 12", x -> x.herd(0, 0, 12), 2);
        taken("n 12 of the second", x -> x.herd(1, 1, 12), 2);

        sentence(5, REFUSED);
        refused("part 3", x -> x.row(0, 3, 9), -1);
        refused("sort 3", x -> x.row(3, 0, 9), -1);
        refused("n 10", x -> x.row(0, 0, 10), -2);
        refused("another kind", x -> x.row(1, 0, 9), -3);
        taken("n 9", x -> x.row(0, 0, 9), 1);

        sentence(6, REFUSED);
        refused("month 12", x -> x.month(12), -2);
        refused("month -1", x -> x.month(-1), -2);
        taken("month 11", x -> x.month(11), 7);

        sentence(7, REFUSED);
        refused("hole 3", x -> x.tell(3, 5), -1);
        refused("n 1000", x -> x.tell(0, 1000), -2);
        refused("n -2", x -> x.tell(0, -2), -2);
        taken("n 999", x -> x.tell(0, 999), 1);
        taken("n -1", x -> x.tell(0, -1), 1);

        sentence(22, REFUSED);
        refused("hole 3", x -> x.book(3, 5), -1);
        refused("hole -2", x -> x.book(-2, 5), -1);
        refused("n 1000", x -> x.book(0, 1000), -2);
        refusedByFull("a row", x -> x.book(0, 5), -4);
        taken("a row", x -> x.book(0, 999), 4);
        taken("emptied", x -> x.book(-1, 1000), 0);
    }

    private static void refusedFences() {
        sentence(8, REFUSED);
        refused("sign 128", x -> x.feed(128), -2);
        refused("sign -1", x -> x.feed(-1), -2);
        refusedByFull("a sign", x -> x.feed('1'), -4);
        taken("a sign", x -> x.feed(' '), 17);

        sentence(9, REFUSED);
        refusedByFull("a fence", x -> x.fence(), -4);
        taken("a fence", x -> x.fence(), 2);
        FeetHorns x = half();
        x.feed(';');
        FeetHorns twin = half();
        twin.fence();
        twin.undo();
        due("a fault", x.fence(), -10 - 17);
        due("the one that held holds", x.told(0), 5);
        due("no fence came", x.count(1), 2);
        due("the text is empty then", x.count(3), 0);
        x.undo();
        due("that of the image is as it was", x.told(0), twin.told(0));
        due("and so is what it owes", x.of(2, 6), twin.of(2, 6));

        sentence(26, REFUSED);
        FeetHorns y = ofOneFoot(2);
        y.herd(0, 0, 3);
        y.month(4);
        due("no image", y.undo(), -3);
        due("the herd stays", y.of(0, 7), 3);
        due("the month stays", y.told(1), 4);
        due("still no image", y.undo(), -3);
        y.image();
        due("an image", y.undo(), 2);
    }

    private static void refusedTapes() {
        sentence(31, REFUSED);
        refused("tape 6", x -> x.tape(6, 0, 3), -1);
        refused("sort 5", x -> x.tape(1, 5, 3), -2);
        refused("sort -2", x -> x.tape(1, -2, 3), -2);
        refused("n 61", x -> x.tape(1, 0, 61), -2);
        refused("n -1", x -> x.tape(1, 0, -1), -14);
        taken("a row", x -> x.tape(1, 2, 3), 1);
        taken("nothing", x -> x.tape(3, -1, -1), 1);

        sentence(32, REFUSED);
        refused("tape -1", x -> x.item(-1, 0, 9), -1);
        refused("nothing", x -> x.item(5, 0, 9), -11);
        refused("place 3", x -> x.item(1, 3, 9), -13);
        refused("place -1", x -> x.item(1, -1, 9), -13);
        taken("place 2", x -> x.item(1, 2, 9), 1);

        sentence(34, REFUSED);
        refused("tape 6", x -> x.shift(6, 0, 1, 0, 1), -1);
        refused("other 6", x -> x.shift(2, 0, 6, 0, 1), -1);
        refused("nothing to take", x -> x.shift(5, 0, 1, 0, 1), -11);
        refused("nothing to come to", x -> x.shift(2, 0, 5, 0, 1), -11);
        refused("unlike", x -> x.shift(0, 0, 1, 0, 1), -12);
        refused("four to three", x -> x.shift(2, 0, 1, 0, 4), -13);
        refused("four of three", x -> x.shift(1, 0, 2, 0, 4), -13);
        refused("three to place 1", x -> x.shift(2, 1, 1, 1, 3), -13);
        refused("none", x -> x.shift(2, 1, 1, 0, 0), 0);
        taken("three", x -> x.shift(2, 1, 1, 0, 3), 3);
    }

    private static void refusedAsks() {
        sentence(3, REFUSED);
        refused("sort 3", x -> x.of(3, 0), -1);
        refused("what 9", x -> x.of(0, 9), -1);
        sentence(10, REFUSED);
        refused("what 4", x -> x.told(4), -1001);
        sentence(11, REFUSED);
        refused("what 3", x -> x.fits(3), -1001);
        sentence(13, REFUSED);
        refused("what 2", x -> x.hole(2), -1);
        sentence(14, REFUSED);
        refused("what 1", x -> x.alike(1), -1001);
        sentence(17, REFUSED);
        refused("what 4", x -> x.prices(4), -1);
        sentence(20, REFUSED);
        refused("part 2", x -> x.odds(0, 2), NO);
        sentence(21, REFUSED);
        refused("sort 3", x -> x.mean(3, 0), NO);
        sentence(24, REFUSED);
        refused("tape 6", x -> x.judge(6, 0), -1);
        refused("ints", x -> x.judge(1, 0), -12);
        sentence(28, REFUSED);
        refused("place 12", x -> x.trace(12), -1);
        sentence(29, REFUSED);
        refused("k 7", x -> x.taken(0, 7), -2);
        refused("no such sort", x -> x.taken(3, 0), -11);
        refused("another kind", x -> x.taken(0, 1), -12);
        sentence(30, REFUSED);
        refused("what 5", x -> x.count(5), -2);
        sentence(33, REFUSED);
        refused("place 3", x -> x.read(1, 3), NO);
        refused("nothing", x -> x.read(5, 0), NO);
    }

    /** An act that there is not takes the trace with it, and that alone. */
    private static void refusedActs() {
        sentence(27, "0, and no TRACE then: no such SORT, act.");
        Call[] calls = {x -> x.act(3, 0, 5), x -> x.act(-1, 0, 5), x -> x.act(0, 3, 5), x -> x.act(0, -1, 5)};
        for (int i = 0; i < calls.length; i++) {
            FeetHorns x = half();
            due("call " + i, calls[i].on(x), 0);
            long[] got = seen(x);
            long[] twin = seen(half());
            due("call " + i + ": no trace", got[0], 0);
            due("call " + i + ": there was one", twin[0], 12);
            due("call " + i + ": nothing else", Arrays.equals(Arrays.copyOfRange(got, 13, got.length),
                Arrays.copyOfRange(twin, 13, twin.length)) ? 1 : 0, 1);
        }
        FeetHorns x = half();
        x.act(0, 0, 5);
        long[] got = seen(x);
        long[] twin = seen(half());
        due("one that there is: its trace", got[0], 2);
        due("one that there is: nothing else", Arrays.equals(Arrays.copyOfRange(got, 13, got.length),
            Arrays.copyOfRange(twin, 13, twin.length)) ? 1 : 0, 1);
    }

    // ---- what is asked

    private static void asked(int promise, Call... calls) {
        sentence(promise, ASKED);
        for (int i = 0; i < calls.length; i++) {
            FeetHorns x = half();
            long answer = calls[i].on(x);
            due("call " + i + " again", calls[i].on(x), answer);
            due("call " + i + " has changed nothing", Arrays.equals(seen(x), seen(half())) ? 1 : 0, 1);
            x = full();
            calls[i].on(x);
            due("full: call " + i + " has changed nothing", Arrays.equals(seen(x), seen(full())) ? 1 : 0, 1);
        }
    }

    private static void asked() {
        asked(3, x -> x.of(0, 6), x -> x.of(1, 12), x -> x.of(2, 8));
        asked(10, x -> x.told(0), x -> x.told(3), x -> x.told(10), x -> x.told(22), x -> x.told(30));
        asked(11, x -> x.fits(0), x -> x.fits(1), x -> x.fits(2), x -> x.fits(10));
        asked(12, x -> x.bars());
        asked(13, x -> x.hole(0), x -> x.hole(1));
        asked(14, x -> x.alike(0), x -> x.alike(12));
        asked(15, x -> x.missed());
        asked(16, x -> x.mix());
        asked(17, x -> x.prices(0), x -> x.prices(3));
        asked(18, x -> x.hid());
        asked(19, x -> x.months());
        asked(20, x -> x.odds(0, 0), x -> x.odds(1, 1));
        asked(21, x -> x.mean(0, 0), x -> x.mean(1, 1));
        asked(23, x -> x.looked());
        asked(24, x -> x.judge(0, 0), x -> x.judge(0, 1));
        asked(28, x -> x.trace(0), x -> x.trace(11));
        asked(29, x -> x.taken(0, 3), x -> x.taken(2, 1));
        asked(30, x -> x.count(0), x -> x.count(4));
        asked(33, x -> x.read(0, 0), x -> x.read(2, 2));

        // an image changes what comes back alone, and one that is the same not even that
        sentence(25, "THE IMAGE is taken: how many SORTS there are.");
        FeetHorns x = half();
        due("an image", x.image(), 3);
        due("it comes back", Arrays.equals(seen(x), seen(half())) ? 1 : 0, 0);
        x = half();
        x.undo();
        FeetHorns twin = half();
        twin.undo();
        due("the same image", x.image(), 3);
        due("all is as of the twin", Arrays.equals(seen(x), seen(twin)) ? 1 : 0, 1);
    }

    /** Each question behind each other one: what one has looked at is not what another answers by. */
    private static void askedInAnyOrder() {
        Call[] calls = {
            x -> x.of(1, 10), x -> x.told(10), x -> x.fits(0), x -> x.fits(1), x -> x.fits(11), x -> x.bars(), x -> x.hole(1),
            x -> x.alike(0), x -> x.missed(), x -> x.mix(), x -> x.prices(0), x -> x.hid(), x -> x.months(), x -> x.odds(1, 0),
            x -> x.mean(1, 0), x -> x.looked(), x -> x.judge(0, 0), x -> x.told(2), x -> x.of(2, 6),
        };
        sentence(11, ASKED);
        for (int a = 0; a < calls.length; a++) {
            long alone = calls[a].on(half());
            for (int b = 0; b < calls.length; b++) {
                FeetHorns x = half();
                calls[b].on(x);
                due("question " + a + " behind " + b, calls[a].on(x), alone);
            }
        }
    }
}

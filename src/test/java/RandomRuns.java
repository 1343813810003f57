import java.util.ArrayList;
import java.util.Arrays;
import java.util.List;
import java.util.Random;
import java.util.TreeSet;
import java.util.regex.Matcher;
import java.util.regex.Pattern;

/** Long runs of calls by chance (the seed is fixed) against a second, slower writing of the document. */
public final class RandomRuns {
    private static final long NO = Long.MIN_VALUE;
    private static int wrong = 0;

    public static void main(String[] args) {
        int runs = args.length > 0 ? Integer.parseInt(args[0]) : 150;
        for (int seed = 0; seed < runs && wrong < 20; seed++) {
            oneRun(seed);
        }
        manyTexts();
        System.out.println(wrong == 0 ? "random runs: all as due" : "random runs: " + wrong + " not as due");
        if (wrong != 0) {
            System.exit(1);
        }
    }

    private static void due(String call, long got, long want) {
        if (got != want) {
            wrong++;
            System.out.println(call + " answered " + got + ", due is " + want);
        }
    }

    // ---- the runs

    private static void oneRun(int seed) {
        Random chance = new Random(seed);
        FeetHorns x = new FeetHorns();
        Model m = new Model();
        for (int i = 0; i < 250; i++) {
            String at = "seed " + seed + " call " + i + " ";
            if (chance.nextInt(12) == 0 && m.fences.size() < 6) {
                String text = Texts.fence(chance);
                if (m.text.length() == 0) {
                    for (char c : text.toCharArray()) {
                        due(at + "feed", x.feed(c), m.feed(c));
                    }
                }
                due(at + "fence " + text, x.fence(), m.fence());
            } else {
                oneCall(at, chance, x, m);
            }
        }
        everythingAsked("seed " + seed + " end ", x, m);
    }

    private static int any(Random chance, int least, int greatest) {
        if (chance.nextInt(40) == 0) {
            int[] odd = {Integer.MIN_VALUE, Integer.MAX_VALUE, least - 1, greatest + 1, Integer.MIN_VALUE + 10, -1};
            return odd[chance.nextInt(odd.length)];
        }
        return least + chance.nextInt(greatest - least + 1);
    }

    private static int sort(Random chance, Model m) {
        return any(chance, 0, Math.max(0, m.sorts.size() - 1));
    }

    private static void oneCall(String at, Random chance, FeetHorns x, Model m) {
        int a;
        int b;
        int c;
        switch (chance.nextInt(38)) {
            case 0: case 1: case 2: {
                int kind = any(chance, 0, 6);
                int v = any(chance, 0, 9);
                int feet = any(chance, 0, 4);
                int horns = any(chance, 0, 9);
                int tails = any(chance, 0, 3);
                int toll = any(chance, 0, 99);
                due(at + "sort", x.sort(kind, v, feet, horns, tails, toll), m.sort(kind, v, feet, horns, tails, toll));
                break;
            }
            case 3: case 4: case 5: case 6:
                a = sort(chance, m);
                b = any(chance, 0, 1);
                c = chance.nextInt(3) == 0 ? any(chance, 0, 12) : any(chance, 0, 2);
                due(at + "herd", x.herd(a, b, c), m.herd(a, b, c));
                break;
            case 7: case 8:
                a = sort(chance, m);
                b = any(chance, 0, 2);
                c = any(chance, 0, 9);
                due(at + "row", x.row(a, b, c), m.row(a, b, c));
                break;
            case 9: case 10:
                a = any(chance, 0, 11);
                due(at + "month", x.month(a), m.month(a));
                break;
            case 11: case 12: case 13: case 14: case 15:
                a = any(chance, 0, 2);
                b = chance.nextInt(3) == 0 ? -1
                    : chance.nextInt(4) == 0 ? any(chance, 0, 999)
                    : Model.isHole(a) ? m.count(m.herd, a, m.month) - (chance.nextInt(4) == 0 ? chance.nextInt(6) : 0)
                    : any(chance, 0, 30);
                due(at + "tell " + a + " " + b, x.tell(a, b), m.tell(a, b));
                break;
            case 16:
                a = any(chance, 0, 127);
                if (m.text.length() > 0 || chance.nextInt(10) == 0) {
                    due(at + "feed", x.feed(a), m.feed(a));
                }
                break;
            case 17:
                a = any(chance, -1, 2);
                b = chance.nextBoolean() && Model.isHole(a) ? m.count(m.herd, a, m.month) : any(chance, 0, 30);
                due(at + "book", x.book(a, b), m.book(a, b));
                break;
            case 18:
                due(at + "image", x.image(), m.image());
                break;
            case 19:
                due(at + "undo", x.undo(), m.undo());
                break;
            case 20: case 21: case 22:
                a = sort(chance, m);
                b = any(chance, 0, 2);
                c = chance.nextBoolean() ? chance.nextInt() : any(chance, -20, 20);
                due(at + "act " + a + " " + b + " " + c, x.act(a, b, c), m.act(a, b, c));
                break;
            case 23: case 24:
                a = any(chance, 0, 5);
                b = any(chance, -1, 4);
                c = chance.nextInt(3) == 0 ? any(chance, 0, 60) : any(chance, 0, 6);
                if (chance.nextInt(3) == 0) {
                    b = 0;
                }
                due(at + "tape", x.tape(a, b, c), m.tape(a, b, c));
                break;
            case 25: case 26: {
                a = any(chance, 0, 5);
                b = any(chance, 0, 6);
                long v = chance.nextBoolean() ? chance.nextLong() : any(chance, 0, 3);
                due(at + "item", x.item(a, b, v), m.item(a, b, v));
                break;
            }
            case 27: case 28: {
                a = any(chance, 0, 5);
                b = any(chance, 0, 6);
                c = any(chance, 0, 5);
                int j = any(chance, 0, 6);
                int n = any(chance, 0, 4);
                due(at + "shift", x.shift(a, b, c, j, n), m.shift(a, b, c, j, n));
                break;
            }
            case 29:
                a = any(chance, 0, 2);
                herdToTape(at, a, x, m);
                b = any(chance, 0, 2);
                due(at + "judge", x.judge(a, b), m.judge(a, b));
                break;
            default:
                askOne(at, chance.nextInt(10), x, m);
        }
    }

    /** Writes the herd to a tape, so that judging gets far now and then. */
    private static void herdToTape(String at, int tape, FeetHorns x, Model m) {
        due(at + "tape", x.tape(tape, 0, 6), m.tape(tape, 0, 6));
        for (int s = 0; s < m.sorts.size(); s++) {
            long n = m.herd[s] + (s == 3 ? 1 : 0);
            due(at + "item", x.item(tape, s + 1, n), m.item(tape, s + 1, n));
        }
    }

    private static void everythingAsked(String at, FeetHorns x, Model m) {
        for (int i = 0; i < 10; i++) {
            askOne(at, i, x, m);
        }
    }

    private static void askOne(String at, int which, FeetHorns x, Model m) {
        switch (which) {
            case 0:
                for (int what = -1; what < 40; what++) {
                    due(at + "told " + what, x.told(what), m.told(what));
                }
                break;
            case 1:
                for (int what = -1; what < 16; what++) {
                    due(at + "fits " + what, x.fits(what), m.fits(what));
                    due(at + "alike " + what, x.alike(what), m.alike(what));
                }
                break;
            case 2:
                due(at + "bars", x.bars(), m.bars());
                due(at + "hole 0", x.hole(0), m.hole(0));
                due(at + "hole 1", x.hole(1), m.hole(1));
                break;
            case 3:
                due(at + "missed", x.missed(), m.missed());
                due(at + "mix", x.mix(), m.mix());
                break;
            case 4:
                for (int what = -1; what < 5; what++) {
                    due(at + "prices " + what, x.prices(what), m.prices(what));
                    due(at + "hole " + what, x.hole(what), m.hole(what));
                    due(at + "count " + what, x.count(what), m.count(what));
                }
                due(at + "count 5", x.count(5), m.count(5));
                break;
            case 5:
                due(at + "hid", x.hid(), m.hid());
                due(at + "months", x.months(), m.months());
                due(at + "looked", x.looked(), m.looked());
                break;
            case 6:
                for (int s = -1; s < 6; s++) {
                    for (int part = -1; part < 3; part++) {
                        due(at + "odds " + s + " " + part, x.odds(s, part), m.odds(s, part));
                        due(at + "mean " + s + " " + part, x.mean(s, part), m.mean(s, part));
                    }
                }
                break;
            case 7:
                for (int s = -1; s < 6; s++) {
                    for (int what = -1; what < 14; what++) {
                        due(at + "of " + s + " " + what, x.of(s, what), m.of(s, what));
                    }
                    for (int k = -1; k < 8; k++) {
                        due(at + "taken " + s + " " + k, x.taken(s, k), m.taken(s, k));
                    }
                }
                break;
            case 8:
                for (int i = -1; i < 22; i++) {
                    due(at + "trace " + i, x.trace(i), m.trace(i));
                }
                break;
            default:
                for (int t = -1; t < 7; t++) {
                    for (int i = -1; i < 8; i++) {
                        due(at + "read " + t + " " + i, x.read(t, i), m.read(t, i));
                        due(at + "judge " + t + " " + i, x.judge(t, i), m.judge(t, i));
                    }
                }
        }
    }

    // ---- texts by chance: the fault only

    private static void manyTexts() {
        Random chance = new Random(77);
        FeetHorns x = new FeetHorns();
        int right = 0;
        int nested = 0;
        for (int i = 0; i < 20000 && wrong < 20; i++) {
            String text = Texts.fence(chance);
            for (char c : text.toCharArray()) {
                x.feed(c);
            }
            int fault = Texts.fault(text);
            int got = x.fence();
            if (fault < 0) {
                right++;
                nested += text.contains("((((") || text.contains("!!!!") ? 1 : 0;
                due("fence " + text, got >= 0 ? 0 : got, 0);
                if (got == 5) {
                    x = new FeetHorns();
                }
            } else {
                due("fence " + text, got, -10 - fault);
            }
        }
        due("enough texts were fences", right > 3000 ? 1 : 0, 1);
        due("enough of these were deep", nested > 20 ? 1 : 0, 1);
    }

    private static final class Texts {
        private static final Pattern FENCE = Pattern.compile(pattern());

        private static String pattern() {
            String number = "[0-9][0-9]?";
            String f = "[skvfmh][<=>]" + number;
            for (int depth = 0; depth < 4; depth++) {
                f = "(?:!" + f + "|\\(" + either(f) + "\\)|[skvfmh][<=>]" + number + ")";
            }
            String clause = "(?:(?:owe|see) " + number + " " + either(f) + "|most " + number + ")";
            return clause + "(?:;" + clause + "){0,9}";
        }

        private static String either(String f) {
            String t = f + "(?:&" + f + ")*";
            return t + "(?:\\|" + t + ")*";
        }

        /** -1: the text is a fence. */
        static int fault(String text) {
            Matcher matcher = FENCE.matcher(text);
            if (matcher.matches()) {
                return -1;
            }
            for (int end = 1; end <= text.length(); end++) {
                matcher.region(0, end);
                if (!matcher.matches() && !matcher.hitEnd()) {
                    return end - 1;
                }
            }
            return text.length();
        }

        /** A fence, or one with a sign too many, too few or another. */
        static String fence(Random chance) {
            StringBuilder out = new StringBuilder();
            int clauses = chance.nextInt(15) == 0 ? 9 + chance.nextInt(4) : 1 + chance.nextInt(5);
            for (int i = 0; i < clauses; i++) {
                out.append(i == 0 ? "" : ";").append(clause(chance, clauses > 6));
            }
            if (chance.nextInt(3) == 0) {
                int at = chance.nextInt(out.length());
                String signs = "owesmt 0123456789skvfmh<=>()!&|;;x\u0000";
                char sign = signs.charAt(chance.nextInt(signs.length()));
                switch (chance.nextInt(4)) {
                    case 0:
                        out.deleteCharAt(at);
                        break;
                    case 1:
                        out.insert(at, sign);
                        break;
                    case 2:
                        out.setCharAt(at, sign);
                        break;
                    default:
                        out.setLength(at);
                }
            }
            return out.length() > 100 ? out.substring(0, 100) : out.toString();
        }

        private static String clause(Random chance, boolean brief) {
            if (brief || chance.nextInt(6) == 0) {
                return "most " + number(chance);
            }
            String word = chance.nextInt(3) == 0 ? "see " : "owe ";
            return word + number(chance) + " " + expression(chance, 0, 1 + chance.nextInt(6));
        }

        private static int number(Random chance) {
            return chance.nextInt(3) == 0 ? chance.nextInt(100) : chance.nextInt(7);
        }

        private static String expression(Random chance, int depth, int size) {
            if (size <= 1 || depth > 6) {
                String number = chance.nextInt(8) == 0 ? "0" + chance.nextInt(10) : "" + number(chance);
                return "" + "skvfmh".charAt(chance.nextInt(6)) + "<=>".charAt(chance.nextInt(3)) + number;
            }
            switch (chance.nextInt(6)) {
                case 0: case 1:
                    return "!" + expression(chance, depth + 1, size - 1);
                case 2: case 3:
                    return "(" + expression(chance, depth + 1, size - 1) + ")";
                default:
                    int left = 1 + chance.nextInt(size - 1);
                    return expression(chance, depth, left) + (chance.nextBoolean() ? "|" : "&")
                        + expression(chance, depth, size - left);
            }
        }
    }

    // ---- kinds, told by Java's own classes

    private static class Beast {
        int kind, i, v, feet, horns, tails, toll;
        int[] row = new int[3];
        List<Integer> ran = new ArrayList<>();

        int goes(int x) { ran.add(10); return x + i; }
        int shows(int x) { ran.add(11); return goes(x) - v; }
        int tells(int x) { ran.add(12); return shows(x) * 2; }

        int[] seen(int[] more, int month) {
            return new int[] {feet + more[0], horns + more[1], tails + more[2]};
        }
    }

    private static class Horned extends Beast {
        @Override int shows(int x) { ran.add(20); return super.shows(x) ^ 6; }

        @Override int[] seen(int[] more, int month) {
            int[] seen = super.seen(more, month);
            seen[1] += v % 2 == 1 ? 1 : 0;
            return seen;
        }
    }

    private static class Calf extends Beast {
        @Override int goes(int x) { ran.add(30); return super.goes(x * 3); }

        @Override int[] seen(int[] more, int month) {
            int[] seen = super.seen(more, month);
            seen[1] = month < 5 ? 0 : seen[1];
            return seen;
        }
    }

    private static class Lame extends Beast {
        @Override int tells(int x) { ran.add(40); return super.tells(x) + shows(1); }

        @Override int[] seen(int[] more, int month) {
            int[] seen = super.seen(more, month);
            seen[0] = seen[0] == 0 ? 0 : seen[0] - 1;
            return seen;
        }
    }

    private static class Proud extends Horned {
        @Override int goes(int x) { ran.add(50); return -super.goes(x); }
        @Override int shows(int x) { ran.add(51); return super.shows(x + 1); }

        @Override int[] seen(int[] more, int month) {
            int[] seen = super.seen(more, month);
            seen[2] += seen[2];
            return seen;
        }
    }

    private static class Hidden extends Calf {
        @Override int tells(int x) { ran.add(60); return super.tells(x - i); }

        @Override int[] seen(int[] more, int month) {
            return month == v ? new int[3] : super.seen(more, month);
        }
    }

    private static class Told extends Lame {
        @Override int shows(int x) { ran.add(70); return super.shows(x) + super.goes(2); }
        @Override int goes(int x) { ran.add(71); return super.goes(x) ^ v; }

        @Override int[] seen(int[] more, int month) {
            int[] seen = super.seen(more, month);
            seen[2] = row[month % 3];
            return seen;
        }
    }

    // ---- the second writing

    private static final class Model {
        List<Beast> sorts = new ArrayList<>();
        int[] herd = new int[5];
        int[] second = new int[5];
        int month = 0;
        int[] told = {-1, -1, -1};
        List<int[]> book = new ArrayList<>();
        String holds = "";
        StringBuilder text = new StringBuilder();
        List<String> fences = new ArrayList<>();
        List<Integer> trace = new ArrayList<>();
        int[] tapeSort = {-1, -1, -1, -1, -1, -1};
        long[][] tapeItems = new long[6][0];
        Object[] kept = null;

        static boolean isHole(int h) {
            return h == 0 || h == 1 || h == 2;
        }

        boolean isSort(int s) {
            return s >= 0 && s < sorts.size();
        }

        static boolean digit(int n) {
            return n >= 0 && n <= 9;
        }

        int sort(int kind, int v, int feet, int horns, int tails, int toll) {
            if (kind < 0 || kind > 6) {
                return -1;
            }
            if (!(digit(v) && digit(feet) && digit(horns) && digit(tails)) || toll < 0 || toll > 99) {
                return -2;
            }
            if (sorts.size() == 5) {
                return -4;
            }
            Beast[] made = {new Beast(), new Horned(), new Calf(), new Lame(), new Proud(), new Hidden(), new Told()};
            Beast b = made[kind];
            b.kind = kind;
            b.i = sorts.size();
            b.v = v;
            b.feet = feet;
            b.horns = horns;
            b.tails = tails;
            b.toll = toll;
            herd[b.i] = 0;
            second[b.i] = 0;
            sorts.add(b);
            return b.i;
        }

        // -- fences

        int feed(int sign) {
            if (sign < 0 || sign > 127) {
                return -2;
            }
            if (text.length() == 100) {
                return -4;
            }
            text.append((char) sign);
            return text.length();
        }

        int fence() {
            if (fences.size() == 6) {
                return -4;
            }
            String all = text.toString();
            text.setLength(0);
            int fault = Texts.fault(all);
            if (fault >= 0) {
                return -10 - fault;
            }
            holds = all;
            fences.add(all);
            return fences.size() - 1;
        }

        String[] clauses() {
            return holds.isEmpty() ? new String[0] : holds.split(";");
        }

        int most() {
            int most = 8;
            for (String c : clauses()) {
                if (c.startsWith("most")) {
                    most = Integer.parseInt(c.substring(5));
                }
            }
            return most > 9 ? 9 : most;
        }

        int sum(String word, Beast b, int month, int hole) {
            int sum = 0;
            for (String c : clauses()) {
                String[] parts = c.split(" ");
                if (parts[0].equals(word) && truth(parts[2], b, month, hole)) {
                    sum += Integer.parseInt(parts[1]);
                }
            }
            return sum;
        }

        static boolean truth(String e, Beast b, int month, int hole) {
            for (char sign : new char[] {'|', '&'}) {
                int depth = 0;
                for (int p = 0; p < e.length(); p++) {
                    depth += e.charAt(p) == '(' ? 1 : e.charAt(p) == ')' ? -1 : 0;
                    if (depth == 0 && e.charAt(p) == sign) {
                        boolean left = truth(e.substring(0, p), b, month, hole);
                        boolean right = truth(e.substring(p + 1), b, month, hole);
                        return sign == '|' ? left || right : left && right;
                    }
                }
            }
            if (e.charAt(0) == '!') {
                return !truth(e.substring(1), b, month, hole);
            }
            if (e.charAt(0) == '(') {
                return truth(e.substring(1, e.length() - 1), b, month, hole);
            }
            int number = Integer.parseInt(e.substring(2));
            char c = e.charAt(0);
            int value = c == 's' ? b.i : c == 'k' ? b.kind : c == 'v' ? b.v : c == 'f' ? b.feet : c == 'm' ? month : hole;
            return e.charAt(1) == '<' ? value < number : e.charAt(1) == '=' ? value == number : value > number;
        }

        int owes(Beast b) {
            return b.toll + sum("owe", b, month, 9);
        }

        int shows(Beast b, int hole, int month) {
            int[] more = {sum("see", b, month, 0), sum("see", b, month, 1), sum("see", b, month, 2)};
            return b.seen(more, month)[hole];
        }

        int count(int[] row, int hole, int month) {
            int sum = 0;
            for (Beast b : sorts) {
                sum += row[b.i] * shows(b, hole, month);
            }
            return sum;
        }

        int toll(int[] row) {
            int sum = 0;
            for (Beast b : sorts) {
                sum += row[b.i] * owes(b);
            }
            return sum;
        }

        int of(int s, int what) {
            if (!isSort(s)) {
                return -1;
            }
            Beast b = sorts.get(s);
            switch (what) {
                case 0: return b.kind;
                case 1: return b.v;
                case 2: return b.feet;
                case 3: return b.horns;
                case 4: return b.tails;
                case 5: return b.toll;
                case 6: return owes(b);
                case 7: return herd[s];
                case 8: return second[s];
                case 10: case 11: case 12: return shows(b, what - 10, month);
                default: return -1;
            }
        }

        int herd(int s, int which, int n) {
            if (!isSort(s) || which < 0 || which > 1) {
                return -1;
            }
            if (n < 0 || n > 12) {
                return -2;
            }
            int[] of = which == 0 ? herd : second;
            int was = of[s];
            of[s] = n;
            return was;
        }

        int row(int s, int part, int n) {
            if (!isSort(s) || part < 0 || part > 2) {
                return -1;
            }
            if (!digit(n)) {
                return -2;
            }
            if (!(sorts.get(s) instanceof Told)) {
                return -3;
            }
            int was = sorts.get(s).row[part];
            sorts.get(s).row[part] = n;
            return was;
        }

        int month(int n) {
            if (n < 0 || n > 11) {
                return -2;
            }
            int was = month;
            month = n;
            return was;
        }

        int tell(int hole, int n) {
            if (!isHole(hole)) {
                return -1;
            }
            if (n < -1 || n > 999) {
                return -2;
            }
            told[hole] = n;
            return 1;
        }

        int told(int what) {
            if (what == 0) {
                return most();
            }
            if (what == 1) {
                return month;
            }
            if (what == 2 || what == 3) {
                return toll(what == 2 ? herd : second);
            }
            if (what >= 10 && what <= 12) {
                return count(herd, what - 10, month);
            }
            if (what >= 20 && what <= 22) {
                return count(second, what - 20, month);
            }
            if (what >= 30 && what <= 32) {
                return told[what - 30] < 0 ? -5 : told[what - 30];
            }
            return -1001;
        }

        // -- herds

        /** All rows of at most so many, with the counts asked for (-1: any), in their order. */
        List<int[]> herds(int most, int[] asked) {
            int[][] shown = shown();
            List<int[]> out = new ArrayList<>();
            grow(out, new int[5], 0, most, shown, asked);
            return out;
        }

        void grow(List<int[]> out, int[] row, int s, int left, int[][] shown, int[] asked) {
            if (s == sorts.size()) {
                for (int h = 0; h < 3; h++) {
                    int sum = 0;
                    for (int t = 0; t < 5; t++) {
                        sum += row[t] * shown[t][h];
                    }
                    if (asked[h] >= 0 && sum != asked[h]) {
                        return;
                    }
                }
                out.add(row.clone());
                return;
            }
            for (int n = 0; n <= left; n++) {
                row[s] = n;
                grow(out, row, s + 1, left - n, shown, asked);
            }
            row[s] = 0;
        }

        /** The tolls of many rows: what the sorts owe is looked at once, as reading the fence takes long. */
        int[] tolls(List<int[]> rows) {
            int[] owes = new int[5];
            for (Beast b : sorts) {
                owes[b.i] = owes(b);
            }
            int[] out = new int[rows.size()];
            for (int i = 0; i < out.length; i++) {
                for (int s = 0; s < 5; s++) {
                    out[i] += rows.get(i)[s] * owes[s];
                }
            }
            return out;
        }

        int[] cheapest(List<int[]> rows) {
            int[] tolls = tolls(rows);
            int best = 0;
            for (int i = 1; i < tolls.length; i++) {
                best = tolls[i] < tolls[best] ? i : best;
            }
            return rows.get(best);
        }

        int fits(int what) {
            if (what < 0 || what > 2 && what < 10 || what >= 10 + sorts.size()) {
                return -1001;
            }
            List<int[]> rows = herds(most(), told);
            if (what == 0) {
                return rows.size();
            }
            if (rows.isEmpty()) {
                return -5;
            }
            TreeSet<Integer> tolls = new TreeSet<>();
            for (int t : tolls(rows)) {
                tolls.add(t);
            }
            return what == 1 ? tolls.first() : what == 2 ? tolls.last() : cheapest(rows)[what - 10];
        }

        /** By remainders that can be reached, not by common divisors. */
        int bars() {
            int[][] shown = shown();
            for (int d = 2; d <= 30; d++) {
                for (int h = 0; h < 3; h++) {
                    if (told[h] < 0) {
                        continue;
                    }
                    boolean[] reached = new boolean[d];
                    reached[0] = true;
                    for (int again = 0; again < d; again++) {
                        for (Beast b : sorts) {
                            for (int r = 0; r < d; r++) {
                                if (reached[r]) {
                                    reached[(r + shown[b.i][h]) % d] = true;
                                }
                            }
                        }
                    }
                    if (!reached[told[h] % d]) {
                        return 100 * d + h;
                    }
                }
            }
            return -5;
        }

        int hole(int what) {
            if (what != 0 && what != 1) {
                return -1;
            }
            int best = -5;
            int fewest = Integer.MAX_VALUE;
            for (int h = 0; h < 3; h++) {
                if (told[h] < 0) {
                    int[] asked = told.clone();
                    asked[h] = count(herd, h, month);
                    int n = herds(most(), asked).size();
                    if (n < fewest) {
                        fewest = n;
                        best = h;
                    }
                }
            }
            return best < 0 ? -5 : what == 0 ? best : fewest;
        }

        /** What one beast of each sort shows. */
        int[][] shown() {
            int[][] shown = new int[5][3];
            for (Beast b : sorts) {
                for (int h = 0; h < 3; h++) {
                    shown[b.i][h] = shows(b, h, month);
                }
            }
            return shown;
        }

        int[] counts(int[] row) {
            return new int[] {count(row, 0, month), count(row, 1, month), count(row, 2, month)};
        }

        int alike(int what) {
            if (what != 0 && (what < 10 || what >= 10 + sorts.size())) {
                return -1001;
            }
            List<int[]> rows = herds(most(), counts(herd));
            if (rows.isEmpty()) {
                return -5;
            }
            return what == 0 ? toll(cheapest(rows)) : cheapest(rows)[what - 10];
        }

        int missed() {
            int best = Integer.MAX_VALUE;
            int[][] one = shown();
            for (int[] r : herds(most(), new int[] {-1, -1, -1})) {
                int more = 0;
                boolean less = false;
                for (int h = 0; h < 3; h++) {
                    int c = 0;
                    for (int s = 0; s < 5; s++) {
                        c += r[s] * one[s][h];
                    }
                    if (told[h] >= 0) {
                        less |= c < told[h];
                        more += c - told[h];
                    }
                }
                if (!less) {
                    best = Math.min(best, more);
                }
            }
            return best == Integer.MAX_VALUE ? -5 : best;
        }

        int mix() {
            int[] asked = counts(herd);
            int[] others = counts(second);
            for (int h = 0; h < 3; h++) {
                asked[h] += others[h];
            }
            List<int[]> rows = herds(2 * most(), asked);
            return rows.isEmpty() ? -100001 : toll(herd) + toll(second) - toll(cheapest(rows));
        }

        int prices(int what) {
            if (what < 0 || what > 3) {
                return -1;
            }
            int[] best = null;
            int[] c = counts(herd);
            int[][] shown = shown();
            int[] owes = new int[5];
            for (Beast b : sorts) {
                owes[b.i] = owes(b);
            }
            for (int f = 0; f < 10; f++) {
                for (int h = 0; h < 10; h++) {
                    for (int t = 0; t < 10; t++) {
                        boolean fair = true;
                        for (int s = 0; s < 5; s++) {
                            fair &= f * shown[s][0] + h * shown[s][1] + t * shown[s][2] <= owes[s];
                        }
                        int paid = f * c[0] + h * c[1] + t * c[2];
                        if (fair && (best == null || paid > best[0])) {
                            best = new int[] {paid, f, h, t};
                        }
                    }
                }
            }
            return best[what];
        }

        int hid() {
            for (Beast b : sorts) {
                for (int n = 1; n <= herd[b.i]; n++) {
                    int[] without = herd.clone();
                    without[b.i] -= n;
                    if (asTold(without, month)) {
                        return 100 * b.i + n;
                    }
                }
            }
            return -5;
        }

        boolean asTold(int[] row, int month) {
            for (int h = 0; h < 3; h++) {
                if (told[h] >= 0 && told[h] != count(row, h, month)) {
                    return false;
                }
            }
            return true;
        }

        int months() {
            int bits = 0;
            for (int m = 0; m < 12; m++) {
                bits += asTold(herd, m) ? 1 << m : 0;
            }
            return bits;
        }

        long odds(int s, int part) {
            return fraction(s, part, true);
        }

        long mean(int s, int part) {
            return fraction(s, part, false);
        }

        long fraction(int s, int part, boolean once) {
            if (!isSort(s) || part < 0 || part > 1) {
                return NO;
            }
            List<int[]> rows = herds(most(), told);
            int above = 0;
            for (int[] r : rows) {
                above += once ? Math.min(1, r[s]) : r[s];
            }
            int below = rows.size();
            if (below == 0) {
                return NO;
            }
            for (int d = below; d > 1; d--) {
                if (below % d == 0 && above % d == 0) {
                    below /= d;
                    above /= d;
                }
            }
            return part == 0 ? above : below;
        }

        int book(int hole, int n) {
            if (hole == -1) {
                book.clear();
                return 0;
            }
            if (!isHole(hole)) {
                return -1;
            }
            if (n < 0 || n > 999) {
                return -2;
            }
            if (book.size() == 12) {
                return -4;
            }
            book.add(new int[] {hole, n});
            return book.size();
        }

        int looked() {
            for (int i = 0; i < book.size(); i++) {
                if (book.get(i)[1] != count(herd, book.get(i)[0], month)) {
                    return i;
                }
            }
            return -5;
        }

        // -- the image, acts, tapes

        int image() {
            List<int[]> rows = new ArrayList<>();
            for (Beast b : sorts) {
                rows.add(b.row.clone());
            }
            kept = new Object[] {new ArrayList<>(sorts), rows, herd.clone(), second.clone(), month, told.clone(),
                new ArrayList<>(book), holds};
            return sorts.size();
        }

        @SuppressWarnings("unchecked")
        int undo() {
            if (kept == null) {
                return -3;
            }
            sorts = new ArrayList<>((List<Beast>) kept[0]);
            List<int[]> rows = (List<int[]>) kept[1];
            for (int s = 0; s < sorts.size(); s++) {
                sorts.get(s).row = rows.get(s).clone();
            }
            herd = ((int[]) kept[2]).clone();
            second = ((int[]) kept[3]).clone();
            month = (Integer) kept[4];
            told = ((int[]) kept[5]).clone();
            book = new ArrayList<>((List<int[]>) kept[6]);
            holds = (String) kept[7];
            return sorts.size();
        }

        int act(int s, int act, int x) {
            trace = new ArrayList<>();
            if (!isSort(s) || act < 0 || act > 2) {
                return 0;
            }
            Beast b = sorts.get(s);
            b.ran = trace;
            return act == 0 ? b.goes(x) : act == 1 ? b.shows(x) : b.tells(x);
        }

        int trace(int i) {
            return i < 0 || i > 19 || i >= trace.size() ? -1 : trace.get(i);
        }

        int taken(int s, int k) {
            Class<?>[] kinds = {Beast.class, Horned.class, Calf.class, Lame.class, Proud.class, Hidden.class, Told.class};
            if (k < 0 || k > 6) {
                return -2;
            }
            if (!isSort(s)) {
                return -11;
            }
            return kinds[k].isInstance(sorts.get(s)) ? sorts.get(s).kind : -12;
        }

        int count(int what) {
            switch (what) {
                case 0: return sorts.size();
                case 1: return fences.size();
                case 2: return book.size();
                case 3: return text.length();
                case 4: return trace.size();
                default: return -2;
            }
        }

        static boolean isTape(int t) {
            return t >= 0 && t < 6;
        }

        int tape(int t, int sort, int n) {
            if (!isTape(t)) {
                return -1;
            }
            if (sort < -1 || sort > 4 || sort >= 0 && n > 60) {
                return -2;
            }
            if (sort >= 0 && n < 0) {
                return -14;
            }
            tapeSort[t] = sort;
            tapeItems[t] = new long[sort < 0 ? 0 : n];
            return 1;
        }

        int item(int t, int i, long v) {
            if (!isTape(t)) {
                return -1;
            }
            if (tapeSort[t] < 0) {
                return -11;
            }
            if (i < 0 || i >= tapeItems[t].length) {
                return -13;
            }
            int[] unused = {56, 48, 32, 0};
            tapeItems[t][i] = tapeSort[t] == 4 ? (v == 0 ? 0 : 1) : v << unused[tapeSort[t]] >> unused[tapeSort[t]];
            return 1;
        }

        long read(int t, int i) {
            return isTape(t) && i >= 0 && i < tapeItems[t].length ? tapeItems[t][i] : NO;
        }

        int shift(int t, int i, int u, int j, int n) {
            if (!isTape(t) || !isTape(u)) {
                return -1;
            }
            if (tapeSort[t] < 0 || tapeSort[u] < 0) {
                return -11;
            }
            if (tapeSort[t] != tapeSort[u]) {
                return -12;
            }
            long endFrom = (long) i + n;
            long endTo = (long) j + n;
            if (n < 0 || i < 0 || j < 0 || endFrom > tapeItems[t].length || endTo > tapeItems[u].length) {
                return -13;
            }
            long[] before = Arrays.copyOfRange(tapeItems[t], i, i + n);
            for (int k = 0; k < n; k++) {
                tapeItems[u][j + k] = before[k];
            }
            return n;
        }

        int judge(int t, int i) {
            if (!isTape(t)) {
                return -1;
            }
            if (tapeSort[t] > 0) {
                return -12;
            }
            for (int s = 0; s < sorts.size(); s++) {
                if (i < 0 || (long) i + s >= tapeItems[t].length) {
                    return 100 + s;
                }
                if (tapeItems[t][i + s] != herd[s]) {
                    return s;
                }
            }
            return -5;
        }
    }
}

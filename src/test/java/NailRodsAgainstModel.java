import java.util.ArrayList;
import java.util.List;

/**
 * Long runs of calls, right and wrong ones, on NailRods and on a plain model that heads nail by nail and sells bag
 * by bag; each answer and the digest behind each call must agree. The calls are the same each time.
 */
public final class NailRodsAgainstModel {
    private static final int RUNS = 400;
    private static final int CALLS = 512;
    private static final int[] IRON = {1, 2, 3, 6};
    private static final int[] WORTH = {8, 14, 20, 36};
    private static final String INDEX = "IndexOutOfBoundsException";
    private static final String ARGUMENT = "IllegalArgumentException";
    private static final String STATE = "IllegalStateException";

    private static long seed;

    public static void main(String[] args) {
        for (int run = 0; run < RUNS; run++) {
            seed = run * 7919L + 1;
            if (!agrees(run)) {
                System.exit(1);
            }
        }
        System.out.println(RUNS + " runs agree with the model");
    }

    private static boolean agrees(int run) {
        NailRods rods = new NailRods();
        Model model = new Model();
        List<String> told = new ArrayList<>();
        // Some runs send long spans of hours, others short ones, so that fires live long enough to be looked at.
        int span = run % 3 == 0 ? 240 : run % 3 == 1 ? 12 : 3;
        for (int call = 0; call < CALLS; call++) {
            int method = method();
            int a = first(method, span);
            int b = second(method);
            int c = any(6) - 1;
            String got = ask(rods, method, a, b, c);
            String wanted = model.answer(method, a, b, c);
            told.add(method + "(" + a + ", " + b + ", " + c + ") " + got);
            if (!got.equals(wanted) || rods.digest() != model.digest()) {
                System.out.println("run " + run + ", due is " + wanted + ":");
                told.forEach(System.out::println);
                return false;
            }
        }
        return true;
    }

    private static int any(int end) {
        seed = seed * 6364136223846793005L + 1442695040888963407L;
        return (int) ((seed >>> 33) % end);
    }

    private static int method() {
        int[] often = {0, 1, 1, 1, 2, 2, 3, 4, 5, 6, 7, 8, 9, 10, 10, 10, 10, 11, 12, 13, 14, 15, 16};
        return often[any(often.length)];
    }

    private static int first(int method, int span) {
        if (any(40) == 0) {
            int[] odd = {-1, 0, 12, 241, Integer.MAX_VALUE, Integer.MIN_VALUE};
            return odd[any(odd.length)];
        }
        switch (method) {
            case 0:
                return any(10) + 1;
            case 7:
            case 8:
                return any(4);
            case 9:
                return any(12);
            case 10:
                return any(span) + 1;
            case 13:
                return any(240) + 1;
            default:
                return any(5);
        }
    }

    private static int second(int method) {
        if (any(40) == 0) {
            int[] odd = {-1, 0, 21, 100, 121, 10000, Integer.MAX_VALUE, Integer.MIN_VALUE};
            return odd[any(odd.length)];
        }
        switch (method) {
            case 1:
                return any(20) + 1;
            case 2:
                return any(9) + 1;
            case 5:
                return any(12);
            case 7:
                return any(62);
            case 12:
                return any(any(4) == 0 ? 9999 : 300) + 1;
            case 13:
                return any(8) + 2;
            case 14:
                return any(any(2) == 0 ? 120 : 8) + 1;
            default:
                return any(4);
        }
    }

    private static String ask(NailRods x, int method, int a, int b, int c) {
        try {
            switch (method) {
                case 0: return "" + x.nailer(a, b, c);
                case 1: return "" + x.lend(a, b);
                case 2: return "" + x.coal(a, b);
                case 3: return "" + x.make(a, b);
                case 4: return "" + x.change(a, b);
                case 5: return "" + x.told(a, b);
                case 6: return "" + x.nails(a, b, c);
                case 7: return "" + x.keep(a, b);
                case 8: return "" + x.fogger(a, b);
                case 9: return "" + x.count(a);
                case 10: return "" + x.pass(a);
                case 11: return "" + x.rate(a);
                case 12: return "" + x.when(a, b);
                case 13: return "" + x.foresee(a, b);
                case 14: return "" + x.advise(a, b);
                case 15: return "" + x.richest();
                default: return "" + x.mean();
            }
        } catch (RuntimeException e) {
            return e.getClass().getSimpleName();
        }
    }

    /** The document's terms, number by number as told() and fogger() have them. */
    private static final class Model {
        int hour = 0;
        final List<int[]> nailers = new ArrayList<>();
        final List<int[]> loose = new ArrayList<>();
        final List<int[]> bags = new ArrayList<>();
        final int[][] foggers = new int[4][];

        Model() {
            for (int f = 0; f < 4; f++) {
                foggers[f] = new int[] {20, 60, 0, 0, 0, 0};
            }
        }

        Model(Model other) {
            hour = other.hour;
            other.nailers.forEach(n -> nailers.add(n.clone()));
            other.loose.forEach(n -> loose.add(n.clone()));
            other.bags.forEach(n -> bags.add(n.clone()));
            for (int f = 0; f < 4; f++) {
                foggers[f] = other.foggers[f].clone();
            }
        }

        String answer(int method, int a, int b, int c) {
            switch (method) {
                case 0: return nailer(a, b, c);
                case 1: return lend(a, b);
                case 2: return coal(a, b);
                case 3: return make(a, b);
                case 4: return change(a, b);
                case 5: return none(a) || off(b, 12) ? INDEX : "" + nailers.get(a)[b];
                case 6: return none(a) || off(b, 4) || off(c, 2) ? INDEX : "" + (c == 0 ? loose : bags).get(a)[b];
                case 7: return keep(a, b);
                case 8: return off(a, 4) || off(b, 6) ? INDEX : "" + foggers[a][b];
                case 9: return off(a, 11) ? INDEX : "" + count(a);
                case 10: return a < 1 || a > 240 ? ARGUMENT : "" + pass(a);
                case 11: return none(a) ? INDEX : "" + new Model(this).good(a, 1);
                case 12: return when(a, b);
                case 13: return foresee(a, b);
                case 14: return advise(a, b);
                case 15: return "" + richest();
                default: return "" + mean();
            }
        }

        boolean none(int nailer) {
            return off(nailer, nailers.size());
        }

        static boolean off(int index, int end) {
            return index < 0 || index >= end;
        }

        String nailer(int skill, int kind, int fogger) {
            if (off(kind, 4) || off(fogger, 4)) {
                return INDEX;
            }
            if (skill < 1 || skill > 9) {
                return ARGUMENT;
            }
            if (nailers.size() == 12) {
                return STATE;
            }
            nailers.add(new int[] {skill, kind, fogger, 0, 0, 0, 10, 5, 0, 0, 0, 0});
            loose.add(new int[4]);
            bags.add(new int[4]);
            foggers[fogger][2]++;
            return "" + (nailers.size() - 1);
        }

        String lend(int nailer, int rods) {
            if (none(nailer)) {
                return INDEX;
            }
            if (rods < 1 || rods > 20) {
                return ARGUMENT;
            }
            int[] n = nailers.get(nailer);
            if (n[8] + 3 * rods > 90) {
                return STATE;
            }
            n[3] += rods;
            n[8] += 3 * rods;
            return "" + n[8];
        }

        String coal(int nailer, int coal) {
            if (none(nailer)) {
                return INDEX;
            }
            if (coal < 1 || coal > 99) {
                return ARGUMENT;
            }
            int[] n = nailers.get(nailer);
            int price = coal / 4 + (coal % 4 == 0 ? 0 : 1);
            if (n[7] < price || n[6] + coal > 99) {
                return STATE;
            }
            n[7] -= price;
            n[6] += coal;
            return "" + n[6];
        }

        String make(int nailer, int kind) {
            if (none(nailer) || off(kind, 4)) {
                return INDEX;
            }
            int before = nailers.get(nailer)[1];
            nailers.get(nailer)[1] = kind;
            return "" + before;
        }

        String change(int nailer, int fogger) {
            if (none(nailer) || off(fogger, 4)) {
                return INDEX;
            }
            int[] n = nailers.get(nailer);
            if (n[8] != 0) {
                return STATE;
            }
            int before = n[2];
            foggers[before][2]--;
            foggers[fogger][2]++;
            n[2] = fogger;
            return "" + before;
        }

        String keep(int fogger, int part) {
            if (off(fogger, 4)) {
                return INDEX;
            }
            if (part < 0 || part > 60) {
                return ARGUMENT;
            }
            int before = foggers[fogger][0];
            foggers[fogger][0] = part;
            return "" + before;
        }

        int count(int what) {
            int sum = what == 0 ? hour : what == 1 ? nailers.size() : 0;
            int[] toldAs = {-1, -1, -1, 3, -1, -1, -1, 7, 8, 9, 10};
            for (int i = 0; i < nailers.size(); i++) {
                if (what == 2 && nailers.get(i)[5] >= 4) {
                    sum++;
                }
                if (toldAs[what] >= 0) {
                    sum += nailers.get(i)[toldAs[what]];
                }
                for (int kind = 0; kind < 4; kind++) {
                    sum += what == 4 ? loose.get(i)[kind] : what == 5 ? bags.get(i)[kind] : 0;
                }
            }
            for (int f = 0; f < 4; f++) {
                sum += what == 6 ? foggers[f][3] : 0;
            }
            return sum;
        }

        int pass(int hours) {
            int before = 0;
            int behind = 0;
            for (int[] n : nailers) {
                before += n[11];
            }
            for (int h = 0; h < hours; h++) {
                hourGoesBy();
            }
            for (int[] n : nailers) {
                behind += n[11];
            }
            return behind - before;
        }

        void hourGoesBy() {
            for (int i = 0; i < nailers.size(); i++) {
                work(nailers.get(i), loose.get(i), bags.get(i));
            }
            if (hour % 48 == 47) {
                int[] load = new int[4];
                for (int i = 0; i < nailers.size(); i++) {
                    reckon(nailers.get(i), bags.get(i), load);
                }
                for (int f = 0; f < 4; f++) {
                    foggers[f][1] += load[f];
                    foggers[f][5] += load[f];
                }
            }
            hour++;
        }

        static void work(int[] n, int[] loose, int[] bags) {
            if (n[6] > 0) {
                n[6]--;
                n[5] = n[5] + 2 > 9 ? 9 : n[5] + 2;
            } else {
                n[5] = n[5] - 3 < 0 ? 0 : n[5] - 3;
            }
            int most = n[5] >= 4 ? n[0] * n[5] * 2 / (n[1] + 1) : 0;
            int headed = 0;
            while (headed < most) {
                if (n[4] < IRON[n[1]]) {
                    if (n[3] == 0) {
                        break;
                    }
                    n[9] += n[4];
                    n[3]--;
                    n[4] = 240;
                }
                n[4] -= IRON[n[1]];
                headed++;
            }
            int burnt = n[5] >= 8 ? headed / 10 : 0;
            n[10] += burnt;
            for (int i = burnt; i < headed; i++) {
                n[11]++;
                if (++loose[n[1]] == 1000) {
                    loose[n[1]] = 0;
                    bags[n[1]]++;
                }
            }
        }

        void reckon(int[] n, int[] bags, int[] load) {
            int[] f = foggers[n[2]];
            for (int kind = 0; kind < 4; kind++) {
                int price = WORTH[kind] * (100 - f[0]) / 100;
                for (int i = bags[kind]; i > 0; i--) {
                    if (f[1] < price) {
                        continue;
                    }
                    bags[kind]--;
                    f[1] -= price;
                    n[7] += price;
                    f[3]++;
                    f[4] += price;
                    f[5] -= price;
                    load[n[2]] += WORTH[kind];
                }
            }
            while (n[8] > 0 && n[7] > 0) {
                n[8]--;
                n[7]--;
                f[1]++;
            }
        }

        /** Changes this model: to be asked of a copy. */
        int good(int nailer, int hours) {
            int before = nailers.get(nailer)[11];
            pass(hours);
            return nailers.get(nailer)[11] - before;
        }

        String when(int nailer, int nails) {
            if (none(nailer)) {
                return INDEX;
            }
            if (nails < 1 || nails > 9999) {
                return ARGUMENT;
            }
            Model copy = new Model(this);
            int good = 0;
            for (int h = 1; h <= 480; h++) {
                good += copy.good(nailer, 1);
                if (good >= nails) {
                    return "" + h;
                }
            }
            return "-1";
        }

        String foresee(int hours, int what) {
            if (hours < 1 || hours > 240) {
                return ARGUMENT;
            }
            if (what < 3 || what > 8) {
                return INDEX;
            }
            Model copy = new Model(this);
            copy.pass(hours);
            return "" + copy.count(what);
        }

        String advise(int nailer, int hours) {
            if (none(nailer)) {
                return INDEX;
            }
            if (hours < 1 || hours > 120) {
                return ARGUMENT;
            }
            int[] worth = new int[4];
            for (int kind = 0; kind < 4; kind++) {
                Model copy = new Model(this);
                copy.make(nailer, kind);
                worth[kind] = copy.good(nailer, hours) * WORTH[kind];
            }
            int best = 3;
            for (int kind = 2; kind >= 0; kind--) {
                best = worth[kind] >= worth[best] ? kind : best;
            }
            return "" + best;
        }

        int richest() {
            int best = nailers.size() - 1;
            for (int i = best; i >= 0; i--) {
                int[] n = nailers.get(i);
                int[] m = nailers.get(best);
                best = n[7] - n[8] >= m[7] - m[8] ? i : best;
            }
            return best;
        }

        double mean() {
            int heats = 0;
            for (int[] n : nailers) {
                heats += n[5];
            }
            return nailers.isEmpty() ? 0 : heats / (double) nailers.size();
        }

        long digest() {
            long d = 1259;
            for (int what = 0; what <= 10; what++) {
                d = d * 31 + count(what);
            }
            for (int i = 0; i < nailers.size(); i++) {
                for (int x : nailers.get(i)) {
                    d = d * 31 + x;
                }
                for (int kind = 0; kind < 4; kind++) {
                    d = (d * 31 + loose.get(i)[kind]) * 31 + bags.get(i)[kind];
                }
            }
            for (int[] f : foggers) {
                for (int x : f) {
                    d = d * 31 + x;
                }
            }
            return d;
        }
    }
}

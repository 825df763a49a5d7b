import java.math.BigInteger;
import java.util.function.LongSupplier;
import java.util.function.ToLongFunction;

/** For each sentence of the promises 1 to 19 that names a boundary case, a test of its own, reckoned by hand. */
public final class NailRodsEdgesOfCalls {
    private static final Class<?> INDEX = IndexOutOfBoundsException.class;
    private static final Class<?> ARGUMENT = IllegalArgumentException.class;
    private static final Class<?> STATE = IllegalStateException.class;
    private static final int MAX = Integer.MAX_VALUE;
    private static final int MIN = Integer.MIN_VALUE;

    private static final int TACKS = 0;
    private static final int CLOUTS = 1;
    private static final int HOBS = 2;
    private static final int SPIKES = 3;

    private static int wrong = 0;
    private static int sentences = 0;
    private static String sentence = "";

    public static void main(String[] args) {
        newObject();
        nailer();
        lend();
        coal();
        coalOfCoins();
        make();
        change();
        told();
        nails();
        keep();
        fogger();
        foggersNumbers();
        count();
        countedHeats();
        pass();
        rate();
        when();
        whenRefused();
        foresee();
        foreseeRefused();
        advise();
        adviseBest();
        richest();
        mean();
        digest();
        System.out.println(wrong == 0 ? sentences + " edges of the promises hold" : wrong + " answers are wrong");
        if (wrong != 0) {
            System.exit(1);
        }
    }

    private static void newObject() {
        edge("1: Creates four foggers without nailers", () -> {
            NailRods x = new NailRods();
            for (int f = 0; f < 4; f++) {
                due("nailers of " + f, x.fogger(f, 2), 0);
                due("bags of " + f, x.fogger(f, 3), 0);
            }
            due("nailers", x.count(1), 0);
            refused("nailer 0", x, INDEX, () -> x.told(0, 0));
        });
        edge("1: in the hour 0", () -> due("hour", new NailRods().count(0), 0));
        edge("1: Creates: each object is on its own", () -> {
            NailRods x = one(9, TACKS, 20, 0);
            NailRods other = new NailRods();
            x.pass(48);
            x.keep(1, 60);
            for (int what = 0; what <= 10; what++) {
                due("count " + what, other.count(what), 0);
            }
            due("kept back", other.fogger(1, 0), 20);
        });
    }

    private static void nailer() {
        edge("2: IndexOutOfBoundsException if kind is not 0 to 3", () -> {
            NailRods x = new NailRods();
            dueRefusedEach(x, INDEX, kind -> x.nailer(5, kind, 0), -1, 4, MIN, MAX);
            due("the kind 0", x.nailer(5, 0, 0), 0);
            due("the kind 3", x.nailer(5, 3, 0), 1);
        });
        edge("2: IndexOutOfBoundsException if fogger is not 0 to 3", () -> {
            NailRods x = new NailRods();
            dueRefusedEach(x, INDEX, fogger -> x.nailer(5, 0, fogger), -1, 4, MIN, MAX);
            due("the fogger 0", x.nailer(5, 0, 0), 0);
            due("the fogger 3", x.nailer(5, 0, 3), 1);
        });
        edge("2: IllegalArgumentException if skill is not 1 to 9", () -> {
            NailRods x = new NailRods();
            dueRefusedEach(x, ARGUMENT, skill -> x.nailer(skill, 0, 0), -1, 0, 10, MIN, MAX);
            due("the skill 1", x.nailer(1, 0, 0), 0);
            due("the skill 9", x.nailer(9, 0, 0), 1);
        });
        edge("2: IllegalStateException if there are 12", () -> {
            NailRods x = crowd(11);
            due("the twelfth", x.nailer(5, 0, 0), 11);
            refused("one more", x, STATE, () -> x.nailer(5, 0, 0));
            refused("and again", x, STATE, () -> x.nailer(5, 0, 0));
        });
        edge("2: the first named: kind and fogger, skill, then 12", () -> {
            NailRods x = crowd(12);
            refused("all wrong", x, INDEX, () -> x.nailer(0, 4, 4));
            refused("kind and skill", x, INDEX, () -> x.nailer(10, -1, 0));
            refused("fogger and skill", x, INDEX, () -> x.nailer(0, 0, 4));
            refused("skill, and there are 12", x, ARGUMENT, () -> x.nailer(10, 0, 0));
            refused("kind, and there are 12", x, INDEX, () -> x.nailer(5, 4, 0));
            refused("fogger, and there are 12", x, INDEX, () -> x.nailer(5, 0, -1));
        });
    }

    private static void lend() {
        edge("3: IndexOutOfBoundsException if there is no such nailer", () -> {
            dueNoSuchNailer((x, nailer) -> x.lend(nailer, 1));
            due("the last of 12", crowd(12).lend(11, 1), 3);
        });
        edge("3: IllegalArgumentException if rods is not 1 to 20", () -> {
            NailRods x = crowd(2);
            dueRefusedEach(x, ARGUMENT, rods -> x.lend(0, rods), 0, -1, 21, MIN, MAX, MAX / 3 + 1);
            due("1", x.lend(0, 1), 3);
            due("20", x.lend(1, 20), 60);
            due("rods", x.told(1, 3), 20);
        });
        edge("3: IllegalStateException if more than 90 would be owed: 93", () -> {
            NailRods x = one(5, TACKS, 29, 0);
            refused("93", x, STATE, () -> x.lend(0, 2));
            due("90", x.lend(0, 1), 90);
            refused("then none", x, STATE, () -> x.lend(0, 1));
            due("rods", x.told(0, 3), 30);
        });
        edge("3: IllegalStateException if more than 90 would be owed: 91", () -> {
            NailRods x = one(5, TACKS, 30, 0);
            x.pass(48);
            due("owed without 5 coins", x.told(0, 8), 85);
            due("88", x.lend(0, 1), 88);
            refused("91", x, STATE, () -> x.lend(0, 1));
        });
        edge("3: more than 90 would be owed: each nailer alone", () -> {
            NailRods x = crowd(2);
            x.lend(0, 20);
            x.lend(0, 10);
            due("the other", x.lend(1, 20), 60);
            due("owed by all", x.count(8), 150);
        });
        edge("3: owes 3 coins more for each", () -> {
            NailRods x = one(5, TACKS, 4, 0);
            due("4 and 7", x.lend(0, 7), 33);
            due("rods", x.told(0, 3), 11);
            due("coins", x.told(0, 7), 5);
            due("the fogger's coins", x.fogger(0, 1), 60);
        });
        edge("3: the first named: nailer, rods, then what is owed", () -> {
            NailRods x = one(5, TACKS, 30, 0);
            refused("nailer and rods", x, INDEX, () -> x.lend(1, 0));
            refused("rods and what is owed", x, ARGUMENT, () -> x.lend(0, 21));
            refused("no rods, with 90 owed", x, ARGUMENT, () -> x.lend(0, 0));
        });
    }

    private static void coal() {
        edge("4: IndexOutOfBoundsException if there is no such nailer", () -> {
            dueNoSuchNailer((x, nailer) -> x.coal(nailer, 1));
            due("the last of 12", crowd(12).coal(11, 1), 11);
        });
        edge("4: IllegalArgumentException if coal is not 1 to 99", () -> {
            NailRods x = crowd(1);
            dueRefusedEach(x, ARGUMENT, coal -> x.coal(0, coal), 0, -1, 100, MIN, MAX, MAX - 3);
            due("1", x.coal(0, 1), 11);
            refused("99 is refused only for the coins", x, STATE, () -> x.coal(0, 99));
        });
        edge("4: the first named: nailer, coal, then the coins", () -> {
            NailRods x = one(5, TACKS, 0, 20);
            refused("nailer and coal", x, INDEX, () -> x.coal(1, 100));
            refused("coal and coins", x, ARGUMENT, () -> x.coal(0, 100));
            refused("no coal, without coins", x, ARGUMENT, () -> x.coal(0, 0));
        });
    }

    private static void coalOfCoins() {
        edge("4: a coin for each 4, and for what is left of fewer than 4", () -> {
            int[] coins = {0, 1, 1, 1, 1, 2, 2, 2, 2, 3, 3, 3, 3, 4, 4, 4, 4, 5, 5, 5, 5};
            for (int coal = 1; coal <= 20; coal++) {
                NailRods x = crowd(1);
                due("coal with " + coal, x.coal(0, coal), 10 + coal);
                due("coins without those for " + coal, x.told(0, 7), 5 - coins[coal]);
            }
        });
        edge("4: these coins are gone", () -> {
            NailRods x = crowd(1);
            x.coal(0, 20);
            for (int f = 0; f < 4; f++) {
                due("coins of fogger " + f, x.fogger(f, 1), 60);
            }
            due("coins of all nailers", x.count(7), 0);
        });
        edge("4: IllegalStateException if there are not so many coins: 6 for 5", () -> {
            NailRods x = crowd(1);
            refused("21", x, STATE, () -> x.coal(0, 21));
            due("20", x.coal(0, 20), 30);
            due("coins", x.told(0, 7), 0);
        });
        edge("4: IllegalStateException if there are not so many coins: 1 for none", () -> {
            NailRods x = one(5, TACKS, 0, 20);
            refused("1", x, STATE, () -> x.coal(0, 1));
        });
        edge("4: IllegalStateException if there are not so many coins: 2 for 1", () -> {
            NailRods x = one(5, TACKS, 0, 16);
            refused("5", x, STATE, () -> x.coal(0, 5));
            due("4", x.coal(0, 4), 30);
        });
        edge("4: Returns how much there is then: of what is not burnt", () -> {
            NailRods x = crowd(1);
            x.pass(10);
            due("3 and none", x.coal(0, 3), 3);
        });
    }

    private static void make() {
        edge("5: IndexOutOfBoundsException if there is no such nailer", () -> {
            dueNoSuchNailer((x, nailer) -> x.make(nailer, 1));
            due("the last of 12", crowd(12).make(11, 1), 0);
        });
        edge("5: IndexOutOfBoundsException if kind is not 0 to 3", () -> {
            NailRods x = crowd(1);
            dueRefusedEach(x, INDEX, kind -> x.make(0, kind), -1, 4, MIN, MAX);
            due("3", x.make(0, 3), 0);
            due("0", x.make(0, 0), 3);
            due("the same", x.make(0, 0), 0);
        });
        edge("5: another kind from now on", () -> {
            NailRods x = one(9, TACKS, 20, 0);
            x.pass(2);
            due("before", x.make(0, SPIKES), TACKS);
            due("tacks", x.nails(0, TACKS, 0), 72);
            due("spikes in the next hour", x.pass(1), 27);
            due("tacks stay", x.nails(0, TACKS, 0), 72);
            due("spikes", x.nails(0, SPIKES, 0), 27);
        });
    }

    private static void change() {
        edge("6: IndexOutOfBoundsException if there is no such nailer", () -> {
            dueNoSuchNailer((x, nailer) -> x.change(nailer, 1));
            due("the last of 12", crowd(12).change(11, 1), 0);
        });
        edge("6: IndexOutOfBoundsException if fogger is not 0 to 3", () -> {
            NailRods x = crowd(1);
            dueRefusedEach(x, INDEX, fogger -> x.change(0, fogger), -1, 4, MIN, MAX);
            due("3", x.change(0, 3), 0);
            due("0", x.change(0, 0), 3);
            due("the same", x.change(0, 0), 0);
        });
        edge("6: IllegalStateException if something is owed: a coin", () -> {
            NailRods x = one(1, TACKS, 2, 0);
            x.pass(48);
            due("owed", x.told(0, 8), 1);
            refused("another", x, STATE, () -> x.change(0, 1));
            refused("the same", x, STATE, () -> x.change(0, 0));
        });
        edge("6: IllegalStateException if something is owed: not when all is paid", () -> {
            NailRods x = one(1, TACKS, 1, 0);
            refused("before the week ends", x, STATE, () -> x.change(0, 1));
            x.pass(48);
            due("behind it", x.change(0, 1), 0);
            due("now", x.told(0, 2), 1);
        });
        edge("6: IllegalStateException if something is owed: by this one", () -> {
            NailRods x = one(1, TACKS, 1, 0);
            x.nailer(1, TACKS, 0);
            due("the other", x.change(1, 2), 0);
        });
        edge("6: the first named: nailer and fogger, then what is owed", () -> {
            NailRods x = one(1, TACKS, 1, 0);
            refused("fogger 4", x, INDEX, () -> x.change(0, 4));
            refused("fogger -1", x, INDEX, () -> x.change(0, -1));
        });
    }

    private static void told() {
        edge("7: IndexOutOfBoundsException if there is no such nailer", () -> {
            dueNoSuchNailer((x, nailer) -> x.told(nailer, 1));
            due("the last of 12", crowd(12).told(11, 0), 5);
        });
        edge("7: IndexOutOfBoundsException if what is not 0 to 11", () -> {
            NailRods x = one(9, TACKS, 20, 0);
            dueRefusedEach(x, INDEX, what -> x.told(0, what), -1, 12, MIN, MAX);
            x.pass(4);
            due("0", x.told(0, 0), 9);
            due("11", x.told(0, 11), 310);
        });
        edge("7: good nails that were headed in all (all but burnt ones): of all kinds, sold or not", () -> {
            NailRods x = one(9, TACKS, 30, 20);
            x.pass(4);
            x.make(0, SPIKES);
            x.pass(44);
            due("good", x.told(0, 11), 310 + 26 * 36 + 27);
            due("burnt", x.told(0, 10), 14 + 26 * 4);
            due("they stay", x.pass(48), 0);
            due("good", x.told(0, 11), 310 + 26 * 36 + 27);
        });
        edge("7: good nails that were headed in all: also those of bags that are sold", () -> {
            NailRods x = one(9, TACKS, 20, 20);
            x.pass(48);
            due("bags", x.nails(0, TACKS, 1), 0);
            due("good", x.told(0, 11), 4214);
        });
    }

    private static void nails() {
        edge("8: IndexOutOfBoundsException if there is no such nailer", () -> {
            dueNoSuchNailer((x, nailer) -> x.nails(nailer, 0, 0));
            due("the last of 12", crowd(12).nails(11, 0, 0), 0);
        });
        edge("8: IndexOutOfBoundsException if kind is not 0 to 3", () -> {
            NailRods x = one(9, SPIKES, 20, 0);
            dueRefusedEach(x, INDEX, kind -> x.nails(0, kind, 0), -1, 4, MIN, MAX);
            dueRefusedEach(x, INDEX, kind -> x.nails(0, kind, 1), -1, 4, MIN, MAX);
            x.pass(2);
            due("0", x.nails(0, 0, 0), 0);
            due("3", x.nails(0, 3, 0), 18);
        });
        edge("8: IndexOutOfBoundsException if what is not 0 to 1", () -> {
            NailRods x = one(9, TACKS, 20, 0);
            dueRefusedEach(x, INDEX, what -> x.nails(0, 0, what), -1, 2, MIN, MAX);
            x.pass(9);
            due("0", x.nails(0, 0, 0), 40);
            due("1", x.nails(0, 0, 1), 1);
        });
    }

    private static void keep() {
        edge("9: IndexOutOfBoundsException if fogger is not 0 to 3", () -> {
            NailRods x = new NailRods();
            dueRefusedEach(x, INDEX, fogger -> x.keep(fogger, 1), -1, 4, MIN, MAX);
            due("0", x.keep(0, 1), 20);
            due("3", x.keep(3, 1), 20);
        });
        edge("9: IllegalArgumentException if part is not 0 to 60", () -> {
            NailRods x = new NailRods();
            dueRefusedEach(x, ARGUMENT, part -> x.keep(2, part), -1, 61, 100, MIN, MAX);
            due("0", x.keep(2, 0), 20);
            due("60", x.keep(2, 60), 0);
            due("then", x.keep(2, 60), 60);
        });
        edge("9: the first named: fogger, then part", () -> {
            NailRods x = new NailRods();
            refused("both", x, INDEX, () -> x.keep(4, 61));
            refused("both below", x, INDEX, () -> x.keep(-1, -1));
        });
        edge("9: from now on: not what was paid before", () -> {
            NailRods x = one(9, SPIKES, 29, 20);
            x.pass(48);
            x.keep(0, 60);
            due("paid", x.fogger(0, 4), 28);
            due("of the others", x.fogger(1, 0), 20);
        });
    }

    private static void fogger() {
        edge("10: IndexOutOfBoundsException if fogger is not 0 to 3", () -> {
            NailRods x = new NailRods();
            dueRefusedEach(x, INDEX, fogger -> x.fogger(fogger, 0), -1, 4, MIN, MAX);
            due("0", x.fogger(0, 0), 20);
            due("3", x.fogger(3, 0), 20);
        });
        edge("10: IndexOutOfBoundsException if what is not 0 to 5", () -> {
            NailRods x = new NailRods();
            dueRefusedEach(x, INDEX, what -> x.fogger(0, what), -1, 6, MIN, MAX);
            due("0", x.fogger(0, 0), 20);
            due("5", x.fogger(0, 5), 0);
        });
    }

    private static void foggersNumbers() {
        edge("10: nailers who work for this fogger: none to 12", () -> {
            NailRods x = crowd(12);
            due("12", x.fogger(0, 2), 12);
            due("none", x.fogger(1, 2), 0);
            x.change(11, 1);
            due("11", x.fogger(0, 2), 11);
            due("1", x.fogger(1, 2), 1);
        });
        edge("10: bags that were bought in all: of several weeks and nailers", () -> {
            NailRods x = one(9, SPIKES, 29, 20);
            x.pass(48);
            x.nailer(9, TACKS, 0);
            x.lend(1, 20);
            x.coal(1, 20);
            x.pass(48);
            due("bags", x.fogger(0, 3), 5);
            due("paid", x.fogger(0, 4), 28 + 4 * 6);
            due("gained", x.fogger(0, 5), 8 + 4 * 2);
        });
        edge("10: what was gained by these: nothing if nothing is kept back", () -> {
            NailRods x = one(9, SPIKES, 29, 20);
            x.keep(0, 0);
            x.pass(48);
            due("paid", x.fogger(0, 4), 36);
            due("gained", x.fogger(0, 5), 0);
        });
        edge("10: what was gained by these: not what was lent", () -> {
            NailRods x = one(1, TACKS, 1, 0);
            x.pass(48);
            due("coins", x.fogger(0, 1), 63);
            due("gained", x.fogger(0, 5), 0);
        });
    }

    private static void count() {
        edge("11: IndexOutOfBoundsException if what is not 0 to 10", () -> {
            NailRods x = one(9, TACKS, 20, 0);
            dueRefusedEach(x, INDEX, x::count, -1, 11, MIN, MAX);
            x.pass(4);
            due("0", x.count(0), 4);
            due("10", x.count(10), 14);
        });
        edge("11: without nailers", () -> {
            NailRods x = new NailRods();
            x.pass(7);
            due("the hour", x.count(0), 7);
            for (int what = 1; what <= 10; what++) {
                due("what " + what, x.count(what), 0);
            }
        });
        edge("11: bags in the warehouse: none with the nailers", () -> {
            NailRods x = one(9, SPIKES, 29, 20);
            x.pass(47);
            due("bags", x.count(5), 1);
            due("in the warehouse", x.count(6), 0);
            x.pass(1);
            due("bags, an hour later", x.count(5), 0);
            due("in the warehouse, an hour later", x.count(6), 1);
        });
        edge("11: of all: the twelfth too", () -> {
            NailRods x = crowd(12);
            x.lend(0, 1);
            x.lend(11, 2);
            x.coal(11, 1);
            due("nailers", x.count(1), 12);
            due("rods", x.count(3), 3);
            due("coins", x.count(7), 59);
            due("owed", x.count(8), 9);
        });
        edge("11: of all: sums over two nailers", () -> {
            NailRods x = one(5, TACKS, 2, 0);
            x.nailer(5, TACKS, 1);
            x.lend(1, 2);
            x.pass(2);
            x.make(0, HOBS);
            x.make(1, HOBS);
            x.pass(3);
            due("rods", x.count(3), 0);
            due("loose", x.count(4), 2 * (40 + 20 + 24 + 27));
            due("scrap", x.count(9), 4);
            due("burnt", x.count(10), 2 * (2 + 3));
        });
    }

    private static void countedHeats() {
        edge("11: those with a heat of 4 or more: 4", () -> {
            NailRods x = crowd(3);
            x.pass(1);
            due("with 2", x.count(2), 0);
            x.pass(1);
            due("with 4", x.count(2), 3);
        });
        edge("11: those with a heat of 4 or more: not 3", () -> {
            NailRods x = crowd(3);
            x.pass(11);
            due("with 6", x.count(2), 3);
            x.pass(1);
            due("with 3", x.count(2), 0);
        });
    }

    private static void pass() {
        edge("12: IllegalArgumentException if hours is not 1 to 240", () -> {
            NailRods x = crowd(1);
            dueRefusedEach(x, ARGUMENT, x::pass, 0, -1, 241, MIN, MAX);
            x.pass(1);
            due("1", x.count(0), 1);
            x.pass(240);
            due("240", x.count(0), 241);
        });
        edge("12: Returns how many good nails are headed: without nailers none", () -> {
            due("240 hours", new NailRods().pass(240), 0);
        });
        edge("12: Returns how many good nails are headed: no burnt ones, of all nailers, in these hours alone", () -> {
            NailRods x = one(9, TACKS, 20, 0);
            x.nailer(1, SPIKES, 3);
            x.lend(1, 1);
            due("hours 1 to 3", x.pass(3), 72 + 108 + 2 + 3);
            due("hour 4", x.pass(1), 130 + 4);
            due("hour 5", x.pass(1), 146 + 4);
        });
        edge("12: Lets hours go by: all at once as one by one", () -> {
            NailRods x = one(9, TACKS, 20, 20);
            NailRods y = one(9, TACKS, 20, 20);
            int sum = 0;
            for (int i = 0; i < 240; i++) {
                sum += y.pass(1);
            }
            due("good", x.pass(240), sum);
            due("digest", x.digest(), y.digest());
        });
    }

    private static void rate() {
        edge("13: IndexOutOfBoundsException if there is no such nailer", () -> {
            dueNoSuchNailer(NailRods::rate);
            due("the last of 12", crowd(12).rate(11), 0);
        });
        edge("13: in the next hour: each hour's pass", () -> {
            NailRods x = one(9, TACKS, 20, 0);
            int[] good = {0, 72, 108, 130, 146, 146, 146, 146, 146, 146, 108, 0, 0};
            for (int hour = 0; hour < good.length; hour++) {
                due("foretold in hour " + hour, x.rate(0), good[hour]);
                due("headed in hour " + hour, x.pass(1), good[hour]);
            }
        });
        edge("13: in the next hour: with the iron that there is", () -> {
            NailRods x = one(9, TACKS, 1, 0);
            x.pass(3);
            due("60 of 144, less 6", x.rate(0), 54);
            x.pass(1);
            due("none", x.rate(0), 0);
        });
        edge("13: (nothing is changed)", () -> dueUnchanged(x -> x.rate(0)));
    }

    private static void when() {
        edge("14: Returns behind how many hours: the first in which there are so many", () -> {
            NailRods x = one(9, TACKS, 20, 0);
            due("1", x.when(0, 1), 2);
            due("72", x.when(0, 72), 2);
            due("73", x.when(0, 73), 3);
            due("180", x.when(0, 180), 3);
            due("181", x.when(0, 181), 4);
        });
        edge("14: Returns behind how many hours: good nails, not burnt ones", () -> {
            NailRods x = one(9, TACKS, 20, 0);
            due("310", x.when(0, 310), 4);
            due("311", x.when(0, 311), 5);
        });
        edge("14: so many more than until now", () -> {
            NailRods x = one(9, TACKS, 20, 0);
            x.pass(5);
            due("146", x.when(0, 146), 1);
            due("147", x.when(0, 147), 2);
        });
        edge("14: if nothing is done: over the end of a week", () -> {
            NailRods x = new NailRods();
            x.pass(30);
            x.nailer(9, TACKS, 0);
            x.lend(0, 20);
            x.coal(0, 20);
            due("4106", x.when(0, 4106), 30);
            due("4107", x.when(0, 4107), 31);
            x.pass(17);
            due("all that are left", x.when(0, 4214 - x.told(0, 11)), 14);
        });
        edge("14: -1 if not by then: the fire is out", () -> {
            NailRods x = one(9, TACKS, 20, 20);
            due("4214", x.when(0, 4214), 31);
            due("4215", x.when(0, 4215), -1);
        });
        edge("14: -1 if not by then: no iron is left", () -> {
            NailRods x = one(8, SPIKES, 1, 20);
            due("40", x.when(0, 40), 3);
            due("41", x.when(0, 41), -1);
        });
        edge("14: -1 if not by then: no rods at all", () -> due("1", crowd(1).when(0, 1), -1));
        edge("14: (nothing is changed)", () -> dueUnchanged(x -> x.when(0, 9999)));
    }

    private static void whenRefused() {
        edge("14: IndexOutOfBoundsException if there is no such nailer", () -> {
            dueNoSuchNailer((x, nailer) -> x.when(nailer, 1));
            due("the last of 12", crowd(12).when(11, 1), -1);
        });
        edge("14: IllegalArgumentException if nails is not 1 to 9999", () -> {
            NailRods x = one(9, TACKS, 20, 0);
            dueRefusedEach(x, ARGUMENT, nails -> x.when(0, nails), 0, -1, 10000, MIN, MAX);
            due("1", x.when(0, 1), 2);
            due("9999", x.when(0, 9999), -1);
        });
        edge("14: the first named: nailer, then nails", () -> {
            NailRods x = crowd(1);
            refused("none", x, INDEX, () -> x.when(1, 0));
            refused("too many", x, INDEX, () -> x.when(-1, 10000));
        });
    }

    private static void foresee() {
        edge("15: behind so many hours: over the end of a week and not", () -> {
            NailRods x = one(9, SPIKES, 29, 20);
            due("bags behind 29", x.foresee(29, 5), 0);
            due("bags behind 30", x.foresee(30, 5), 1);
            due("bags behind 47", x.foresee(47, 5), 1);
            due("bags behind 48", x.foresee(48, 5), 0);
            due("in the warehouse behind 47", x.foresee(47, 6), 0);
            due("in the warehouse behind 48", x.foresee(48, 6), 1);
            due("owed behind 47", x.foresee(47, 8), 87);
            due("owed behind 48", x.foresee(48, 8), 59);
        });
        edge("15: behind so many hours: from this hour on", () -> {
            NailRods x = one(1, TACKS, 1, 0);
            x.pass(47);
            due("owed behind 1", x.foresee(1, 8), 0);
            due("coins behind 1", x.foresee(1, 7), 2);
            x.pass(1);
            x.lend(0, 1);
            due("owed behind 47", x.foresee(47, 8), 3);
            due("owed behind 48", x.foresee(48, 8), 1);
        });
        edge("15: behind so many hours: each what", () -> {
            NailRods x = one(9, TACKS, 20, 20);
            int[] behind31 = {0, 214, 4, 0, 0, 60};
            int[] behind48 = {0, 214, 0, 4, 0, 36};
            for (int what = 3; what <= 8; what++) {
                due("behind 31, " + what, x.foresee(31, what), behind31[what - 3]);
                due("behind 240, " + what, x.foresee(240, what), behind48[what - 3]);
            }
        });
        edge("15: behind so many hours: without nailers", () -> {
            NailRods x = new NailRods();
            for (int what = 3; what <= 8; what++) {
                due("what " + what, x.foresee(240, what), 0);
            }
        });
        edge("15: behind so many hours: with 12 nailers", () -> {
            NailRods x = crowd(12);
            for (int i = 0; i < 12; i++) {
                x.lend(i, 1);
            }
            due("owed behind 47", x.foresee(47, 8), 36);
            due("owed behind 48", x.foresee(48, 8), 0);
            due("coins behind 240", x.foresee(240, 7), 24);
            due("loose behind 240", x.foresee(240, 4), 12 * 226);
        });
        edge("15: if nothing is done: by the fogger, and with what is kept back, of now", () -> {
            NailRods x = new NailRods();
            x.nailer(9, SPIKES, 2);
            x.lend(0, 20);
            x.lend(0, 9);
            x.coal(0, 20);
            x.keep(2, 60);
            due("owed without 14", x.foresee(48, 8), 87 - 14);
            x.keep(2, 0);
            due("owed without 36", x.foresee(48, 8), 87 - 36);
        });
        edge("15: what pass brings, for all hours", () -> {
            for (int hours = 1; hours <= 240; hours++) {
                NailRods x = one(9, SPIKES, 29, 20);
                int loose = x.foresee(hours, 4);
                int bags = x.foresee(hours, 6);
                x.pass(hours);
                due("loose behind " + hours, loose, x.count(4));
                due("in the warehouse behind " + hours, bags, x.count(6));
            }
        });
        edge("15: (nothing is changed)", () -> dueUnchanged(x -> x.foresee(240, 5)));
    }

    private static void foreseeRefused() {
        edge("15: IllegalArgumentException if hours is not 1 to 240", () -> {
            NailRods x = one(9, TACKS, 20, 0);
            dueRefusedEach(x, ARGUMENT, hours -> x.foresee(hours, 3), 0, -1, 241, MIN, MAX);
            due("1", x.foresee(1, 3), 20);
            due("240", x.foresee(240, 3), 14);
        });
        edge("15: IndexOutOfBoundsException if what is not 3 to 8", () -> {
            NailRods x = one(9, TACKS, 20, 0);
            dueRefusedEach(x, INDEX, what -> x.foresee(1, what), 2, 9, 0, 10, -1, MIN, MAX);
            due("3", x.foresee(1, 3), 20);
            due("8", x.foresee(1, 8), 60);
        });
        edge("15: the first named: hours, then what", () -> {
            NailRods x = crowd(1);
            refused("too few, and 2", x, ARGUMENT, () -> x.foresee(0, 2));
            refused("too many, and 9", x, ARGUMENT, () -> x.foresee(241, 9));
            refused("too many, and -1", x, ARGUMENT, () -> x.foresee(241, -1));
        });
    }

    private static void advise() {
        edge("16: IndexOutOfBoundsException if there is no such nailer", () -> {
            dueNoSuchNailer((x, nailer) -> x.advise(nailer, 1));
            due("the last of 12", crowd(12).advise(11, 1), 0);
        });
        edge("16: IllegalArgumentException if hours is not 1 to 120", () -> {
            NailRods x = one(9, TACKS, 20, 0);
            dueRefusedEach(x, ARGUMENT, hours -> x.advise(0, hours), 0, -1, 121, MIN, MAX);
            due("1", x.advise(0, 1), 0);
            due("120", x.advise(0, 120), 3);
        });
        edge("16: the first named: nailer, then hours", () -> {
            NailRods x = crowd(1);
            refused("none", x, INDEX, () -> x.advise(1, 0));
            refused("too many", x, INDEX, () -> x.advise(-1, 121));
        });
        edge("16: (nothing is changed)", () -> dueUnchanged(x -> x.advise(0, 120)));
    }

    private static void adviseBest() {
        edge("16: in so many hours: 5 or 6 make another kind the best", () -> {
            NailRods x = one(3, CLOUTS, 1, 0);
            due("5: 38 spikes at 36, not 153 tacks at 8", x.advise(0, 5), SPIKES);
            due("6: 202 tacks at 8, not 38 spikes at 36", x.advise(0, 6), TACKS);
        });
        edge("16: of several the smallest number: nothing is headed of any", () -> {
            NailRods x = one(9, SPIKES, 20, 0);
            due("too cold", x.advise(0, 1), 0);
            due("without rods", one(9, SPIKES, 0, 0).advise(0, 120), 0);
        });
        edge("16: of several the smallest number: 99 tacks at 8, 22 spikes at 36", () -> {
            NailRods x = one(2, TACKS, 1, 20);
            x.pass(5);
            due("132 ounces are left", x.told(0, 4), 132);
            due("of these two", x.advise(0, 3), TACKS);
        });
        edge("16: from now on: what is loose does not count", () -> {
            NailRods x = one(9, TACKS, 30, 20);
            x.pass(20);
            due("loose tacks", x.nails(0, TACKS, 0), 646);
            due("1568 tacks at 8, 387 spikes at 36", x.advise(0, 11), SPIKES);
        });
        edge("16: good nails that are headed: with the fire and the iron of now", () -> {
            NailRods x = one(9, CLOUTS, 1, 0);
            x.pass(3);
            due("in hand", x.told(0, 4), 60);
            due("54 tacks at 8, 27 clouts at 14, 18 hobs at 20, 9 spikes at 36", x.advise(0, 1), TACKS);
        });
        edge("16: good nails that are headed: a single burnt one makes another kind the best", () -> {
            NailRods x = one(1, TACKS, 1, 0);
            x.pass(4);
            due("17 of 18 tacks at 8, not 144 as 4 spikes at 36", x.advise(0, 1), SPIKES);
        });
        edge("16: the kind that is made now plays no part", () -> {
            for (int kind = 0; kind < 4; kind++) {
                due("from " + kind, one(3, kind, 1, 0).advise(0, 5), SPIKES);
                due("from " + kind, one(3, kind, 1, 0).advise(0, 6), TACKS);
            }
        });
    }

    private static void richest() {
        edge("17: -1 if there is none", () -> due("nobody", new NailRods().richest(), -1));
        edge("17: the only one, who owes more than there are coins", () -> {
            due("the only one", one(1, TACKS, 30, 20).richest(), 0);
        });
        edge("17: of several the one with the smallest number", () -> {
            NailRods x = crowd(12);
            due("12 with 5 coins", x.richest(), 0);
            x.coal(0, 1);
            due("11 with 5 coins", x.richest(), 1);
            x.lend(1, 1);
            due("10 with 5 coins", x.richest(), 2);
        });
        edge("17: of several the one with the smallest number: coins and debts that come to the same", () -> {
            NailRods x = crowd(2);
            x.lend(0, 1);
            x.coal(1, 12);
            due("5 less 3, and 2", x.richest(), 0);
            NailRods y = crowd(2);
            y.coal(0, 12);
            y.lend(1, 1);
            due("2, and 5 less 3", y.richest(), 0);
        });
        edge("17: with the most coins: the twelfth by a coin", () -> {
            NailRods x = crowd(12);
            for (int i = 0; i < 11; i++) {
                x.coal(i, 1);
            }
            due("the twelfth", x.richest(), 11);
        });
        edge("17: less what is owed: all owe more than there are coins", () -> {
            NailRods x = crowd(3);
            x.lend(0, 3);
            x.lend(1, 2);
            x.lend(2, 3);
            due("-4, -1 and -4", x.richest(), 1);
        });
        edge("17: less what is owed: just nothing", () -> {
            NailRods x = crowd(2);
            x.lend(0, 2);
            x.coal(1, 20);
            due("-1 and 0", x.richest(), 1);
        });
    }

    private static void mean() {
        edge("18: 0 if there are none", () -> {
            NailRods x = new NailRods();
            dueMean(x, 0.0);
            x.pass(10);
            dueMean(x, 0.0);
        });
        edge("18: the mean heat: no whole number", () -> {
            NailRods x = crowd(1);
            x.pass(1);
            x.nailer(5, 0, 0);
            dueMean(x, 1.0);
            x.nailer(5, 0, 0);
            dueMean(x, 2.0 / 3);
        });
        edge("18: the mean heat: 0 and 9", () -> {
            NailRods x = crowd(12);
            dueMean(x, 0.0);
            x.pass(10);
            dueMean(x, 9.0);
            x.pass(3);
            dueMean(x, 0.0);
        });
    }

    private static void digest() {
        edge("19: A number d starts with 1259: a new object", () -> {
            long[] foggers = {20, 60, 0, 0, 0, 0, 20, 60, 0, 0, 0, 0, 20, 60, 0, 0, 0, 0, 20, 60, 0, 0, 0, 0};
            dueDigest(new NailRods(), new long[11], foggers);
        });
        edge("19: which wraps around as a 64-bit integer", () -> {
            BigInteger d = BigInteger.valueOf(1259).multiply(BigInteger.valueOf(31).pow(11 + 24));
            for (int f = 0; f < 4; f++) {
                BigInteger keptBackAndCoins = BigInteger.valueOf(20 * 31 + 60);
                d = d.add(keptBackAndCoins.multiply(BigInteger.valueOf(31).pow(6 * (3 - f) + 4)));
            }
            due("d would need more than 64 bits", d.bitLength() > 64 ? 1 : 0, 1);
            due("digest", new NailRods().digest(), d.longValue());
        });
        edge("19: in its order: one nailer", () -> {
            NailRods x = new NailRods();
            x.nailer(7, 2, 3);
            x.lend(0, 4);
            x.coal(0, 5);
            long[] counted = {0, 1, 0, 4, 0, 0, 0, 3, 12, 0, 0};
            long[] told = {7, 2, 3, 4, 0, 0, 15, 3, 12, 0, 0, 0};
            long[] foggers = {20, 60, 0, 0, 0, 0, 20, 60, 0, 0, 0, 0, 20, 60, 0, 0, 0, 0, 20, 60, 1, 0, 0, 0};
            dueDigest(x, counted, told, new long[8], foggers);
        });
        edge("19: for each kind loose nails and bags: in its order", () -> {
            NailRods x = one(9, TACKS, 20, 20);
            x.pass(31);
            long[] counted = {31, 1, 1, 0, 214, 4, 0, 0, 60, 0, 430};
            long[] told = {9, 0, 0, 0, 156, 6, 0, 0, 60, 0, 430, 4214};
            long[] nails = {214, 4, 0, 0, 0, 0, 0, 0};
            long[] foggers = {20, 60, 1, 0, 0, 0, 20, 60, 0, 0, 0, 0, 20, 60, 0, 0, 0, 0, 20, 60, 0, 0, 0, 0};
            dueDigest(x, counted, told, nails, foggers);
        });
        edge("19: for each nailer, for each fogger: behind a week", () -> {
            NailRods x = one(9, SPIKES, 29, 20);
            x.nailer(1, TACKS, 2);
            x.pass(48);
            long[] counted = {48, 2, 0, 0, 41, 0, 1, 5, 59, 0, 107};
            long[] first = {9, 3, 0, 0, 72, 0, 0, 0, 59, 0, 107, 1041};
            long[] nails = {0, 0, 0, 0, 0, 0, 41, 0};
            long[] second = {1, 0, 2, 0, 0, 0, 0, 5, 0, 0, 0, 0};
            long[] foggers = {20, 96, 1, 1, 28, 8, 20, 60, 0, 0, 0, 0, 20, 60, 1, 0, 0, 0, 20, 60, 0, 0, 0, 0};
            dueDigest(x, counted, first, nails, second, new long[8], foggers);
        });
    }

    /** d, reckoned without wrapping around, cut to 64 bits at the end. */
    private static void dueDigest(NailRods x, long[]... rows) {
        BigInteger d = BigInteger.valueOf(1259);
        for (long[] row : rows) {
            for (long number : row) {
                d = d.multiply(BigInteger.valueOf(31)).add(BigInteger.valueOf(number));
            }
        }
        due("digest", x.digest(), d.longValue());
        due("asked again", x.digest(), d.longValue());
    }

    /** An object with one nailer, of fogger 0, who has lent so many rods and bought so much coal. */
    private static NailRods one(int skill, int kind, int rods, int coal) {
        NailRods x = new NailRods();
        x.nailer(skill, kind, 0);
        for (int left = rods; left > 0; left -= 20) {
            x.lend(0, Math.min(left, 20));
        }
        if (coal > 0) {
            x.coal(0, coal);
        }
        return x;
    }

    private static NailRods crowd(int nailers) {
        NailRods x = new NailRods();
        for (int i = 0; i < nailers; i++) {
            x.nailer(5, 0, 0);
        }
        return x;
    }

    private static void edge(String name, Runnable test) {
        sentence = name;
        sentences++;
        try {
            test.run();
        } catch (RuntimeException e) {
            complain("the test", e.getClass().getName(), "an answer");
        }
    }

    /** One who is asked in each hour, and one who is never asked, go the same way. */
    private static void dueUnchanged(ToLongFunction<NailRods> question) {
        NailRods x = one(9, SPIKES, 29, 20);
        NailRods twin = one(9, SPIKES, 29, 20);
        for (int hour = 0; hour < 100; hour++) {
            long answer = question.applyAsLong(x);
            due("asked again in hour " + hour, question.applyAsLong(x), answer);
            due("digest in hour " + hour, x.digest(), twin.digest());
            due("good in hour " + hour, x.pass(1), twin.pass(1));
        }
    }

    private interface Call {
        long with(int argument);
    }

    private interface CallOfNailer {
        long with(NailRods x, int nailer);
    }

    private static void dueNoSuchNailer(CallOfNailer call) {
        NailRods empty = new NailRods();
        dueRefusedEach(empty, INDEX, nailer -> call.with(empty, nailer), -1, 0, 11, MIN, MAX);
        NailRods two = crowd(2);
        dueRefusedEach(two, INDEX, nailer -> call.with(two, nailer), -1, 2, 11, 12, MIN, MAX);
        NailRods full = crowd(12);
        dueRefusedEach(full, INDEX, nailer -> call.with(full, nailer), -1, 12, MIN, MAX);
    }

    private static void dueRefusedEach(NailRods x, Class<?> wanted, Call call, int... arguments) {
        for (int argument : arguments) {
            refused("with " + argument, x, wanted, () -> call.with(argument));
        }
    }

    private static void dueMean(NailRods x, double wanted) {
        double got = x.mean();
        if (got != wanted) {
            complain("mean", String.valueOf(got), String.valueOf(wanted));
        }
    }

    private static void due(String what, long got, long wanted) {
        if (got != wanted) {
            complain(what, String.valueOf(got), String.valueOf(wanted));
        }
    }

    /** The call throws exactly this, and changes nothing. */
    private static void refused(String what, NailRods x, Class<?> wanted, LongSupplier call) {
        long before = x.digest();
        String got;
        try {
            got = String.valueOf(call.getAsLong());
        } catch (RuntimeException e) {
            got = e.getClass().getName();
        }
        if (!got.equals(wanted.getName())) {
            complain(what, got, wanted.getName());
        }
        due(what + " changes nothing", x.digest(), before);
    }

    private static void complain(String what, String got, String wanted) {
        wrong++;
        System.out.println(sentence + ": " + what + ": " + got + ", due is " + wanted);
    }
}

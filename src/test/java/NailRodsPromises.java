import java.util.function.LongSupplier;

/** For each promise of the document: ordinary inputs, the edges it names, and wrong inputs, reckoned by hand. */
public final class NailRodsPromises {
    private static final Class<?> INDEX = IndexOutOfBoundsException.class;
    private static final Class<?> ARGUMENT = IllegalArgumentException.class;
    private static final Class<?> STATE = IllegalStateException.class;
    private static final int MAX = Integer.MAX_VALUE;
    private static final int MIN = Integer.MIN_VALUE;

    private static int wrong = 0;
    private static String promise = "";

    public static void main(String[] args) {
        newObject();
        nailer();
        lend();
        coal();
        make();
        change();
        told();
        toldOfScrap();
        nails();
        keep();
        fogger();
        reckoning();
        reckoningOfOtherKinds();
        count();
        pass();
        firesOfOddHeat();
        rate();
        when();
        foresee();
        advise();
        richest();
        mean();
        digest();
        exampleOfReadme();
        System.out.println(wrong == 0 ? "all promises hold" : wrong + " answers are wrong");
        if (wrong != 0) {
            System.exit(1);
        }
    }

    private static void newObject() {
        promise = "1 a new object";
        NailRods x = new NailRods();
        for (int what = 0; what <= 10; what++) {
            due("count " + what, x.count(what), 0);
        }
        for (int f = 0; f < 4; f++) {
            dueFogger(x, f, 20, 60, 0, 0, 0, 0);
        }
        refused(x, INDEX, "told(0, 0)", () -> x.told(0, 0));
    }

    private static void nailer() {
        promise = "2 nailer";
        NailRods x = new NailRods();
        due("first", x.nailer(7, 2, 3), 0);
        dueTold(x, 0, 7, 2, 3, 0, 0, 0, 10, 5, 0, 0, 0, 0);
        for (int kind = 0; kind < 4; kind++) {
            due("loose", x.nails(0, kind, 0), 0);
            due("bags", x.nails(0, kind, 1), 0);
        }
        refused(x, INDEX, "kind 4", () -> x.nailer(5, 4, 0));
        refused(x, INDEX, "kind -1", () -> x.nailer(5, -1, 0));
        refused(x, INDEX, "fogger 4", () -> x.nailer(5, 0, 4));
        refused(x, INDEX, "fogger -1", () -> x.nailer(5, 0, -1));
        refused(x, INDEX, "kind far off", () -> x.nailer(5, MAX, 0));
        refused(x, INDEX, "fogger far off", () -> x.nailer(5, 0, MIN));
        refused(x, ARGUMENT, "skill 0", () -> x.nailer(0, 0, 0));
        refused(x, ARGUMENT, "skill 10", () -> x.nailer(10, 0, 0));
        refused(x, INDEX, "kind before skill", () -> x.nailer(0, 4, 0));
        refused(x, INDEX, "fogger before skill", () -> x.nailer(0, 0, 4));
        due("skill 1", x.nailer(1, 0, 0), 1);
        due("skill 9", x.nailer(9, 3, 3), 2);
        for (int i = 3; i < 12; i++) {
            due("the next", x.nailer(5, 0, 0), i);
        }
        refused(x, STATE, "a thirteenth", () -> x.nailer(5, 0, 0));
        refused(x, ARGUMENT, "skill before the thirteenth", () -> x.nailer(10, 0, 0));
        refused(x, INDEX, "kind before the thirteenth", () -> x.nailer(5, 4, 0));
    }

    private static void lend() {
        promise = "3 lend";
        NailRods x = new NailRods();
        x.nailer(5, 0, 0);
        due("1 rod", x.lend(0, 1), 3);
        due("rods", x.told(0, 3), 1);
        due("owed", x.told(0, 8), 3);
        due("coins stay", x.told(0, 7), 5);
        due("20 rods", x.lend(0, 20), 63);
        refused(x, STATE, "93 owed", () -> x.lend(0, 10));
        due("90 owed", x.lend(0, 9), 90);
        due("30 rods", x.told(0, 3), 30);
        refused(x, STATE, "one more", () -> x.lend(0, 1));
        refused(x, ARGUMENT, "no rods", () -> x.lend(0, 0));
        refused(x, ARGUMENT, "21 rods, before what is owed", () -> x.lend(0, 21));
        refused(x, ARGUMENT, "rods far off", () -> x.lend(0, MAX));
        refused(x, ARGUMENT, "rods far below", () -> x.lend(0, MIN));
        refused(x, INDEX, "no such nailer, before the rods", () -> x.lend(1, 0));
        refused(x, INDEX, "nailer -1", () -> x.lend(-1, 1));
    }

    private static void coal() {
        promise = "4 coal";
        NailRods x = new NailRods();
        x.nailer(5, 0, 0);
        due("1 for a coin", x.coal(0, 1), 11);
        due("coins", x.told(0, 7), 4);
        due("5 for two", x.coal(0, 5), 16);
        due("coins", x.told(0, 7), 2);
        refused(x, STATE, "9 for three", () -> x.coal(0, 9));
        due("8 for two", x.coal(0, 8), 24);
        due("coins", x.told(0, 7), 0);
        due("nobody has these coins", x.fogger(0, 1), 60);
        refused(x, STATE, "without coins", () -> x.coal(0, 1));
        refused(x, ARGUMENT, "no coal", () -> x.coal(0, 0));
        refused(x, ARGUMENT, "100 coal, before the coins", () -> x.coal(0, 100));
        refused(x, ARGUMENT, "coal far off", () -> x.coal(0, MAX));
        refused(x, STATE, "99 coal", () -> x.coal(0, 99));
        refused(x, INDEX, "no such nailer, before the coal", () -> x.coal(1, 0));
        refused(x, INDEX, "nailer -1", () -> x.coal(-1, 1));
    }

    private static void make() {
        promise = "5 make";
        NailRods x = new NailRods();
        x.nailer(5, 1, 0);
        due("before", x.make(0, 3), 1);
        due("since", x.told(0, 1), 3);
        due("the same again", x.make(0, 3), 3);
        due("the least", x.make(0, 0), 3);
        refused(x, INDEX, "kind 4", () -> x.make(0, 4));
        refused(x, INDEX, "kind -1", () -> x.make(0, -1));
        refused(x, INDEX, "nailer 1", () -> x.make(1, 0));
        refused(x, INDEX, "nailer -1", () -> x.make(-1, 0));
    }

    private static void change() {
        promise = "6 change";
        NailRods x = new NailRods();
        x.nailer(5, 1, 2);
        due("before", x.change(0, 3), 2);
        due("since", x.told(0, 2), 3);
        due("left", x.fogger(2, 2), 0);
        due("joined", x.fogger(3, 2), 1);
        due("the same again", x.change(0, 3), 3);
        x.lend(0, 2);
        refused(x, STATE, "something owed", () -> x.change(0, 0));
        refused(x, INDEX, "fogger 4, before what is owed", () -> x.change(0, 4));
        refused(x, INDEX, "fogger -1", () -> x.change(0, -1));
        refused(x, INDEX, "nailer 1", () -> x.change(1, 0));
        refused(x, INDEX, "nailer -1", () -> x.change(-1, 0));
        x.pass(48);
        due("a coin is owed", x.told(0, 8), 1);
        refused(x, STATE, "a single coin owed", () -> x.change(0, 0));

        NailRods y = new NailRods();
        y.nailer(5, 1, 3);
        y.lend(0, 1);
        y.pass(48);
        due("when it is paid", y.change(0, 0), 3);
    }

    private static void told() {
        promise = "7 told";
        NailRods x = new NailRods();
        x.nailer(9, 0, 0);
        x.lend(0, 10);
        x.pass(1);
        dueTold(x, 0, 9, 0, 0, 10, 0, 2, 9, 5, 30, 0, 0, 0);
        x.pass(1);
        dueTold(x, 0, 9, 0, 0, 9, 168, 4, 8, 5, 30, 0, 0, 72);
        x.pass(1);
        dueTold(x, 0, 9, 0, 0, 9, 60, 6, 7, 5, 30, 0, 0, 180);
        x.pass(1);
        dueTold(x, 0, 9, 0, 0, 8, 156, 8, 6, 5, 30, 0, 14, 310);
        x.pass(1);
        dueTold(x, 0, 9, 0, 0, 7, 234, 9, 5, 5, 30, 0, 30, 456);
        x.pass(5);
        dueTold(x, 0, 9, 0, 0, 4, 144, 9, 0, 5, 30, 0, 110, 1186);
        x.pass(1);
        dueTold(x, 0, 9, 0, 0, 4, 36, 6, 0, 5, 30, 0, 110, 1294);
        x.pass(1);
        dueTold(x, 0, 9, 0, 0, 4, 36, 3, 0, 5, 30, 0, 110, 1294);
        x.pass(1);
        due("cold", x.told(0, 5), 0);
        x.pass(1);
        due("as cold", x.told(0, 5), 0);
        refused(x, INDEX, "what 12", () -> x.told(0, 12));
        refused(x, INDEX, "what -1", () -> x.told(0, -1));
        refused(x, INDEX, "nailer 1", () -> x.told(1, 0));
        refused(x, INDEX, "nailer -1", () -> x.told(-1, 0));
        refused(x, INDEX, "nailer 12", () -> x.told(12, 0));
    }

    private static void toldOfScrap() {
        NailRods x = new NailRods();
        x.nailer(1, 0, 0);
        x.coal(0, 20);
        x.lend(0, 2);
        x.pass(3);
        due("220 ounces are left of 20 tacks", x.told(0, 4), 220);
        x.make(0, 3);
        x.pass(9);
        dueTold(x, 0, 1, 3, 0, 1, 4, 9, 18, 0, 6, 0, 0, 56);
        x.pass(1);
        dueTold(x, 0, 1, 3, 0, 0, 216, 9, 17, 0, 6, 4, 0, 60);

        NailRods y = new NailRods();
        y.nailer(1, 0, 0);
        y.coal(0, 20);
        y.lend(0, 1);
        y.pass(3);
        y.make(0, 3);
        y.pass(10);
        due("without a rod nothing is scrap", y.told(0, 9), 0);
        due("without a rod what is in hand stays", y.told(0, 4), 4);
        y.make(0, 0);
        y.pass(1);
        due("four tacks of what stayed", y.told(0, 11), 60);
        due("nothing is left", y.told(0, 4), 0);
    }

    private static void nails() {
        promise = "8 nails";
        NailRods x = new NailRods();
        x.nailer(9, 0, 0);
        x.lend(0, 10);
        x.pass(8);
        due("loose", x.nails(0, 0, 0), 894);
        due("bags", x.nails(0, 0, 1), 0);
        x.pass(1);
        due("loose", x.nails(0, 0, 0), 40);
        due("bags", x.nails(0, 0, 1), 1);
        x.make(0, 1);
        x.pass(1);
        due("loose of before", x.nails(0, 0, 0), 40);
        due("loose clouts", x.nails(0, 1, 0), 73);
        due("no bag of clouts", x.nails(0, 1, 1), 0);
        refused(x, INDEX, "kind 4", () -> x.nails(0, 4, 0));
        refused(x, INDEX, "kind -1", () -> x.nails(0, -1, 0));
        refused(x, INDEX, "what 2", () -> x.nails(0, 0, 2));
        refused(x, INDEX, "what -1", () -> x.nails(0, 0, -1));
        refused(x, INDEX, "nailer 1", () -> x.nails(1, 0, 0));
        refused(x, INDEX, "nailer -1", () -> x.nails(-1, 0, 0));
    }

    private static void keep() {
        promise = "9 keep";
        NailRods x = new NailRods();
        due("at first", x.keep(3, 60), 20);
        due("the most", x.fogger(3, 0), 60);
        due("then", x.keep(3, 0), 60);
        due("the least", x.fogger(3, 0), 0);
        due("another", x.fogger(2, 0), 20);
        refused(x, ARGUMENT, "part 61", () -> x.keep(0, 61));
        refused(x, ARGUMENT, "part -1", () -> x.keep(0, -1));
        refused(x, INDEX, "fogger 4, before the part", () -> x.keep(4, 61));
        refused(x, INDEX, "fogger -1", () -> x.keep(-1, 1));
    }

    private static void fogger() {
        promise = "10 fogger";
        NailRods x = spikes(20);
        x.pass(47);
        dueFogger(x, 1, 20, 60, 1, 0, 0, 0);
        x.pass(1);
        dueFogger(x, 1, 20, 96, 1, 1, 28, 8);
        dueFogger(x, 0, 20, 60, 0, 0, 0, 0);
        x.nailer(5, 0, 1);
        due("two nailers", x.fogger(1, 2), 2);
        refused(x, INDEX, "what 6", () -> x.fogger(0, 6));
        refused(x, INDEX, "what -1", () -> x.fogger(0, -1));
        refused(x, INDEX, "fogger 4", () -> x.fogger(4, 0));
        refused(x, INDEX, "fogger -1", () -> x.fogger(-1, 0));
    }

    private static void reckoning() {
        duePaid(0, 36);
        duePaid(1, 35);
        duePaid(33, 24);
        duePaid(60, 14);

        NailRods x = new NailRods();
        x.nailer(9, 0, 2);
        x.nailer(5, 0, 2);
        x.coal(0, 20);
        x.lend(0, 20);
        x.lend(0, 8);
        x.lend(1, 1);
        x.pass(47);
        due("bags before the last hour", x.nails(0, 0, 1), 4);
        due("debts before the last hour", x.told(1, 8), 3);
        x.pass(1);
        due("each bag brings 6", x.fogger(2, 4), 24);
        due("all that came is paid", x.told(0, 8), 60);
        due("no coins stay", x.told(0, 7), 0);
        due("the other owes nothing", x.told(1, 8), 0);
        due("and has coins left", x.told(1, 7), 2);
        due("the fogger's coins", x.fogger(2, 1), 60 + 3 + 32);
        due("the fogger's gain", x.fogger(2, 5), 8);
        due("loose ones stay", x.nails(0, 0, 0), 214);
    }

    private static void reckoningOfOtherKinds() {
        NailRods x = new NailRods();
        x.nailer(9, 2, 0);
        x.coal(0, 20);
        x.lend(0, 20);
        x.pass(48);
        dueFogger(x, 0, 20, 60 + 20, 1, 1, 16, 4);
        due("loose hobs", x.nails(0, 2, 0), 414);
        due("debt less a bag of hobs", x.told(0, 8), 60 - 16);
        x.nailer(9, 1, 0);
        x.coal(1, 20);
        x.lend(1, 20);
        x.pass(48);
        dueFogger(x, 0, 20, 80 + 28, 2, 3, 16 + 22, 4 + 6);
        due("loose clouts", x.nails(1, 1, 0), 107);
        due("debt less two bags of clouts", x.told(1, 8), 60 - 22);
        due("nothing comes twice", x.pass(48), 0);
        dueFogger(x, 0, 20, 80 + 28, 2, 3, 16 + 22, 4 + 6);
        due("in the warehouse", x.count(6), 3);
    }

    private static void firesOfOddHeat() {
        NailRods x = new NailRods();
        x.nailer(9, 0, 0);
        x.lend(0, 20);
        x.lend(0, 10);
        x.pass(12);
        due("cooled", x.told(0, 5), 3);
        x.coal(0, 3);
        int burnt = x.told(0, 10);
        due("at 5", x.pass(1), 90);
        due("at 7", x.pass(1), 126);
        due("nothing is burnt at 7", x.told(0, 10), burnt);
        due("at 9", x.pass(1), 146);
        due("16 are burnt at 9", x.told(0, 10), burnt + 16);
    }

    private static void duePaid(int part, int price) {
        NailRods x = spikes(part);
        x.pass(48);
        due("debt with " + part + " kept back", x.told(0, 8), 87 - price);
        dueFogger(x, 1, part, 60 + 36, 1, 1, price, 36 - price);
        due("the bag is gone", x.nails(0, 3, 1), 0);
    }

    /** A nailer who makes 1041 good spikes in the first week for fogger 1. */
    private static NailRods spikes(int part) {
        NailRods x = new NailRods();
        x.nailer(9, 3, 1);
        x.lend(0, 20);
        x.lend(0, 9);
        x.coal(0, 20);
        x.keep(1, part);
        return x;
    }

    private static void count() {
        promise = "11 count";
        NailRods x = spikes(20);
        x.nailer(1, 0, 0);
        x.lend(1, 2);
        x.pass(31);
        dueCount(x, 31, 2, 1, 1, 41 + 149, 1, 0, 5, 93, 0, 107 + 7);
        x.pass(1);
        due("the heat of 3 is not counted", x.count(2), 0);
        x.pass(16);
        dueCount(x, 48, 2, 0, 1, 41 + 149, 0, 1, 0, 59 + 1, 0, 107 + 7);
        refused(x, INDEX, "what 11", () -> x.count(11));
        refused(x, INDEX, "what -1", () -> x.count(-1));

        NailRods y = new NailRods();
        y.nailer(1, 0, 0);
        y.coal(0, 20);
        y.lend(0, 2);
        y.pass(2);
        due("the heat of 4 is counted", y.count(2), 1);
        y.pass(1);
        y.make(0, 3);
        y.pass(10);
        due("scrap", y.count(9), 4);
    }

    private static void pass() {
        promise = "12 pass";
        NailRods x = new NailRods();
        due("without nailers", x.pass(240), 0);
        due("the hour", x.count(0), 240);
        x.nailer(9, 0, 0);
        x.nailer(1, 3, 1);
        x.lend(0, 10);
        x.lend(1, 1);
        due("too cold", x.pass(1), 0);
        due("both", x.pass(1), 72 + 2);
        due("three hours, less the burnt", x.pass(3), 108 + 130 + 146 + 3 + 4 + 4);
        due("the hour", x.count(0), 245);
        refused(x, ARGUMENT, "no hours", () -> x.pass(0));
        refused(x, ARGUMENT, "-1 hours", () -> x.pass(-1));
        refused(x, ARGUMENT, "241 hours", () -> x.pass(241));
        refused(x, ARGUMENT, "hours far off", () -> x.pass(MAX));

        NailRods y = new NailRods();
        y.nailer(9, 0, 0);
        y.lend(0, 1);
        due("as long as there is iron", y.pass(10), 72 + 108 + 54);
        due("a tenth of the last 60 is burnt", y.told(0, 10), 6);
    }

    private static void rate() {
        promise = "13 rate";
        NailRods x = new NailRods();
        x.nailer(9, 0, 0);
        x.lend(0, 10);
        long before = x.digest();
        due("too cold", x.rate(0), 0);
        due("nothing is changed", x.digest(), before);
        x.pass(1);
        due("at 4", x.rate(0), 72);
        due("again", x.rate(0), 72);
        x.pass(2);
        due("without the burnt", x.rate(0), 130);
        x.pass(1);
        due("at most 9", x.rate(0), 146);
        due("what it comes to", x.pass(1), 146);
        refused(x, INDEX, "nailer 1", () -> x.rate(1));
        refused(x, INDEX, "nailer -1", () -> x.rate(-1));
    }

    private static void when() {
        promise = "14 when";
        NailRods x = new NailRods();
        x.nailer(9, 0, 0);
        x.nailer(9, 0, 0);
        x.lend(0, 10);
        long before = x.digest();
        due("one nail", x.when(0, 1), 2);
        due("72 nails", x.when(0, 72), 2);
        due("73 nails", x.when(0, 73), 3);
        due("180 nails", x.when(0, 180), 3);
        due("181 nails", x.when(0, 181), 4);
        due("1294 nails", x.when(0, 1294), 11);
        due("1295 nails", x.when(0, 1295), -1);
        due("9999 nails", x.when(0, 9999), -1);
        due("without rods", x.when(1, 1), -1);
        due("nothing is changed", x.digest(), before);
        x.pass(2);
        due("more than until now", x.when(0, 108), 1);
        due("more than until now", x.when(0, 109), 2);
        refused(x, ARGUMENT, "no nails", () -> x.when(0, 0));
        refused(x, ARGUMENT, "10000 nails", () -> x.when(0, 10000));
        refused(x, ARGUMENT, "-1 nails", () -> x.when(0, -1));
        refused(x, INDEX, "no such nailer, before the nails", () -> x.when(2, 0));
        refused(x, INDEX, "nailer -1", () -> x.when(-1, 1));
    }

    private static void foresee() {
        promise = "15 foresee";
        NailRods x = spikes(20);
        x.nailer(1, 0, 0);
        x.lend(1, 2);
        long before = x.digest();
        int[] behind31 = {1, 41 + 149, 1, 0, 5, 93};
        int[] behind48 = {1, 41 + 149, 0, 1, 0, 60};
        for (int what = 3; what <= 8; what++) {
            due("31 hours, " + what, x.foresee(31, what), behind31[what - 3]);
            due("48 hours, " + what, x.foresee(48, what), behind48[what - 3]);
            due("240 hours, " + what, x.foresee(240, what), behind48[what - 3]);
        }
        due("1 hour", x.foresee(1, 3), 31);
        due("2 hours", x.foresee(2, 3), 29);
        due("47 hours", x.foresee(47, 6), 0);
        due("nothing is changed", x.digest(), before);
        x.pass(40);
        due("the hour counts", x.foresee(7, 6), 0);
        due("the hour counts", x.foresee(8, 6), 1);
        refused(x, INDEX, "what 2", () -> x.foresee(1, 2));
        refused(x, INDEX, "what 9", () -> x.foresee(1, 9));
        refused(x, INDEX, "what -1", () -> x.foresee(1, -1));
        refused(x, ARGUMENT, "no hours, before what", () -> x.foresee(0, 2));
        refused(x, ARGUMENT, "241 hours, before what", () -> x.foresee(241, 9));
    }

    private static void advise() {
        promise = "16 advise";
        NailRods x = new NailRods();
        x.nailer(9, 2, 0);
        x.nailer(1, 2, 0);
        x.nailer(9, 3, 0);
        x.nailer(2, 0, 0);
        x.lend(0, 10);
        x.lend(1, 10);
        x.lend(3, 20);
        long before = x.digest();
        due("nothing by any: the smallest", x.advise(0, 1), 0);
        due("no iron: the smallest", x.advise(2, 120), 0);
        due("72 tacks, 36 clouts, 24 hobs, 18 spikes", x.advise(0, 2), 3);
        due("8 tacks, 4 clouts, 2 hobs, 2 spikes", x.advise(1, 2), 3);
        due("20 tacks, 10 clouts, 6 hobs, 5 spikes", x.advise(1, 3), 3);
        due("35 tacks, 18 clouts, 11 hobs, 9 spikes", x.advise(1, 4), 3);
        due("1294 tacks or 321 spikes", x.advise(0, 120), 3);
        due("nothing is changed", x.digest(), before);
        refused(x, ARGUMENT, "no hours", () -> x.advise(0, 0));
        refused(x, ARGUMENT, "121 hours", () -> x.advise(0, 121));
        refused(x, INDEX, "no such nailer, before the hours", () -> x.advise(4, 0));
        refused(x, INDEX, "nailer -1", () -> x.advise(-1, 1));

        NailRods y = new NailRods();
        y.nailer(3, 0, 0);
        y.lend(0, 1);
        due("60 tacks or 15 spikes", y.advise(0, 3), 3);
        due("all of a rod: more than 216 tacks, at most 40 spikes", y.advise(0, 120), 0);

        NailRods z = new NailRods();
        z.nailer(2, 0, 0);
        z.coal(0, 20);
        z.lend(0, 1);
        z.pass(5);
        due("132 ounces for two hours and more", z.told(0, 4), 132);
        due("99 tacks at 8 or 22 spikes at 36: the smallest", z.advise(0, 3), 0);
    }

    private static void richest() {
        promise = "17 richest";
        NailRods x = new NailRods();
        due("nobody", x.richest(), -1);
        x.nailer(5, 0, 0);
        due("the only one", x.richest(), 0);
        x.nailer(5, 0, 0);
        x.nailer(5, 0, 0);
        due("the smallest number of several", x.richest(), 0);
        x.coal(0, 1);
        due("of those with 5", x.richest(), 1);
        x.lend(1, 1);
        due("what is owed is less", x.richest(), 2);
        x.lend(2, 5);
        due("4, 2 and -10", x.richest(), 0);
        x.lend(0, 6);
        x.lend(1, 7);
        due("-14, -19 and -10", x.richest(), 2);
        x.lend(2, 5);
        due("-14, -19 and -25", x.richest(), 0);
    }

    private static void mean() {
        promise = "18 mean";
        NailRods x = new NailRods();
        dueMean("nobody", x, 0.0);
        x.nailer(5, 0, 0);
        dueMean("cold", x, 0.0);
        x.pass(1);
        dueMean("one", x, 2.0);
        x.nailer(5, 0, 0);
        x.pass(1);
        dueMean("4 and 2", x, 3.0);
        x.nailer(5, 0, 0);
        x.nailer(5, 0, 0);
        dueMean("4, 2, 0 and 0", x, 1.5);
        x.pass(2);
        dueMean("8, 6, 4 and 4", x, 5.5);
        x.pass(1);
        dueMean("9, 8, 6 and 6", x, 29.0 / 4);
        x.nailer(5, 0, 0);
        x.nailer(5, 0, 0);
        dueMean("a sixth", x, 29.0 / 6);
    }

    private static void digest() {
        promise = "19 digest";
        NailRods x = new NailRods();
        dueDigest(x, 0);
        x.nailer(1, 0, 0);
        dueDigest(x, 1);
        x.coal(0, 20);
        x.lend(0, 2);
        x.pass(3);
        x.make(0, 3);
        x.pass(10);
        dueDigest(x, 1);
        x.nailer(9, 3, 1);
        x.lend(1, 20);
        x.lend(1, 9);
        x.coal(1, 20);
        x.pass(34);
        dueDigest(x, 2);
        x.pass(1);
        dueDigest(x, 2);
    }

    private static void dueDigest(NailRods x, int nailers) {
        long d = 1259;
        for (int what = 0; what <= 10; what++) {
            d = d * 31 + x.count(what);
        }
        for (int i = 0; i < nailers; i++) {
            for (int what = 0; what <= 11; what++) {
                d = d * 31 + x.told(i, what);
            }
            for (int kind = 0; kind < 4; kind++) {
                d = d * 31 + x.nails(i, kind, 0);
                d = d * 31 + x.nails(i, kind, 1);
            }
        }
        for (int i = 0; i < 4; i++) {
            for (int what = 0; what <= 5; what++) {
                d = d * 31 + x.fogger(i, what);
            }
        }
        due("digest", x.digest(), d);
        due("again", x.digest(), d);
    }

    private static void exampleOfReadme() {
        promise = "of README.md";
        NailRods trade = new NailRods();
        int smith = trade.nailer(9, 0, 2);
        due("nailer(9, 0, 2)", smith, 0);
        due("lend(smith, 20)", trade.lend(smith, 20), 60);
        due("coal(smith, 20)", trade.coal(smith, 20), 30);
        due("rate(smith)", trade.rate(smith), 0);
        due("when(smith, 1000)", trade.when(smith, 1000), 9);
        due("advise(smith, 10)", trade.advise(smith, 10), 3);
        due("foresee(48, 8)", trade.foresee(48, 8), 36);
        due("pass(48)", trade.pass(48), 4214);
        due("count(6)", trade.count(6), 4);
        due("nails(smith, 0, 0)", trade.nails(smith, 0, 0), 214);
        due("told(smith, 8)", trade.told(smith, 8), 36);
        due("fogger(2, 5)", trade.fogger(2, 5), 8);
        due("keep(2, 10)", trade.keep(2, 10), 20);
        due("make(smith, 3)", trade.make(smith, 3), 0);
        refused(trade, STATE, "change(smith, 1)", () -> trade.change(smith, 1));
    }

    private static void dueTold(NailRods x, int nailer, int... wanted) {
        for (int what = 0; what < wanted.length; what++) {
            due("told(" + nailer + ", " + what + ")", x.told(nailer, what), wanted[what]);
        }
    }

    private static void dueCount(NailRods x, int... wanted) {
        for (int what = 0; what < wanted.length; what++) {
            due("count(" + what + ")", x.count(what), wanted[what]);
        }
    }

    private static void dueFogger(NailRods x, int fogger, int... wanted) {
        for (int what = 0; what < wanted.length; what++) {
            due("fogger(" + fogger + ", " + what + ")", x.fogger(fogger, what), wanted[what]);
        }
    }

    private static void dueMean(String what, NailRods x, double wanted) {
        double got = x.mean();
        if (got != wanted) {
            complain(what, String.valueOf(got), String.valueOf(wanted));
        }
    }

    private static void due(String what, long got, long wanted) {
        if (got != wanted) {
            complain(what, String.valueOf(got), String.valueOf(wanted));
        }
    }

    /** The call throws exactly this, and changes nothing. */
    private static void refused(NailRods x, Class<?> wanted, String what, LongSupplier call) {
        long before = x.digest();
        String got;
        try {
            got = String.valueOf(call.getAsLong());
        } catch (RuntimeException e) {
            got = e.getClass().getName();
        }
        if (!got.equals(wanted.getName())) {
            complain(what, got, wanted.getName());
        }
        due(what + " changes nothing", x.digest(), before);
    }

    private static void complain(String what, String got, String wanted) {
        wrong++;
        System.out.println("promise " + promise + ": " + what + ": " + got + ", due is " + wanted);
    }
}

import java.util.function.LongSupplier;

/** For each sentence of the document's Terms that names a boundary case, a test of its own, reckoned by hand. */
public final class NailRodsEdgesOfTerms {
    private static final Class<?> INDEX = IndexOutOfBoundsException.class;
    private static final Class<?> ARGUMENT = IllegalArgumentException.class;
    private static final Class<?> STATE = IllegalStateException.class;

    private static final int TACKS = 0;
    private static final int CLOUTS = 1;
    private static final int HOBS = 2;
    private static final int SPIKES = 3;

    private static int wrong = 0;
    private static int sentences = 0;
    private static String sentence = "";

    public static void main(String[] args) {
        callsAndTime();
        kinds();
        nailers();
        foggers();
        fires();
        iron();
        ironThatIsShort();
        burntNails();
        bags();
        lastHours();
        prices();
        debts();
        warehouse();
        exceptions();
        System.out.println(wrong == 0 ? sentences + " edges of the terms hold" : wrong + " answers are wrong");
        if (wrong != 0) {
            System.exit(1);
        }
    }

    private static void callsAndTime() {
        edge("used for at most 512 calls: the 512th answers", () -> {
            NailRods x = new NailRods();
            for (int call = 1; call < 512; call++) {
                x.pass(240);
            }
            due("hour", x.count(0), 122640);
        });
        edge("/ is cut towards 0", () -> {
            NailRods x = one(1, HOBS, 1, 0);
            due("8 / 3 hobs", x.pass(2), 2);
        });
        edge("Time is told in hours, from 0", () -> {
            NailRods x = new NailRods();
            due("a new object", x.count(0), 0);
            x.pass(1);
            due("an hour later", x.count(0), 1);
        });
        edge("a week has 48", () -> {
            NailRods x = one(1, TACKS, 1, 0);
            x.pass(47);
            due("owed behind 47", x.told(0, 8), 3);
            x.pass(1);
            due("owed behind 48", x.told(0, 8), 0);
        });
        edge("a week has 48: the next one too", () -> {
            NailRods x = one(1, TACKS, 1, 0);
            x.pass(48);
            x.lend(0, 1);
            x.pass(47);
            due("owed behind 95", x.told(0, 8), 3);
            x.pass(1);
            due("owed behind 96", x.told(0, 8), 1);
        });
        edge("a week has 48: the fifth ends with the hour 240", () -> {
            NailRods x = new NailRods();
            x.pass(200);
            x.nailer(1, TACKS, 0);
            x.lend(0, 1);
            x.pass(39);
            due("owed behind 239", x.told(0, 8), 3);
            x.pass(1);
            due("owed behind 240", x.told(0, 8), 0);
        });
    }

    private static void kinds() {
        edge("Kinds of nails. There are 4", () -> {
            NailRods x = new NailRods();
            due("the kind 3", x.nailer(1, 3, 0), 0);
            refused("the kind 4", x, INDEX, () -> x.nailer(1, 4, 0));
            refused("the kind -1", x, INDEX, () -> x.nailer(1, -1, 0));
        });
        edge("tacks, of 1 ounce of iron each", () -> dueInHand(TACKS, 240 - 72));
        edge("clouts of 2", () -> dueInHand(CLOUTS, 240 - 36 * 2));
        edge("hobs of 3", () -> dueInHand(HOBS, 240 - 24 * 3));
        edge("spikes of 6", () -> dueInHand(SPIKES, 240 - 18 * 6));
        edge("A rod has 240 ounces: of tacks 240, and not one more", () -> {
            NailRods x = one(9, TACKS, 1, 0);
            due("all hours", x.pass(20), 234);
            due("burnt", x.told(0, 10), 6);
            due("in hand", x.told(0, 4), 0);
            due("scrap", x.told(0, 9), 0);
        });
        edge("A rod has 240 ounces: of spikes 40, and not one more", () -> {
            NailRods x = one(8, SPIKES, 1, 0);
            due("16 and 24", x.pass(20), 40);
            due("in hand", x.told(0, 4), 0);
        });
    }

    /** What is left of a rod behind the first hour in which one of skill 9 heads nails. */
    private static void dueInHand(int kind, int ounces) {
        NailRods x = one(9, kind, 1, 0);
        x.pass(2);
        due("in hand", x.told(0, 4), ounces);
        due("rods", x.told(0, 3), 0);
    }

    private static void nailers() {
        edge("Nailers. There are at most 12", () -> {
            NailRods x = crowd(11);
            due("the last", x.nailer(9, 3, 3), 11);
            refused("one more", x, STATE, () -> x.nailer(1, 0, 0));
            due("how many", x.count(1), 12);
            due("the skill of the last", x.told(11, 0), 9);
        });
        edge("There are at most 12: each of 12 heads nails and reckons", () -> {
            NailRods x = crowd(12);
            for (int i = 0; i < 12; i++) {
                x.lend(i, 1);
            }
            due("good", x.pass(240), 12 * (40 + 60 + 72 + 54));
            due("owed", x.count(8), 0);
            due("coins", x.count(7), 12 * 2);
            due("the fogger's coins", x.fogger(0, 1), 60 + 12 * 3);
            due("loose nails of the last", x.nails(11, TACKS, 0), 226);
        });
        edge("numbered from 0 in the order of their coming", () -> {
            NailRods x = new NailRods();
            due("the first", x.nailer(4, 0, 0), 0);
            due("the second", x.nailer(6, 0, 0), 1);
            due("the skill of the first", x.told(0, 0), 4);
            due("the skill of the second", x.told(1, 0), 6);
        });
        edge("each has a skill, 1 to 9", () -> {
            NailRods x = new NailRods();
            refused("0", x, ARGUMENT, () -> x.nailer(0, 0, 0));
            x.nailer(1, 0, 0);
            x.nailer(9, 0, 0);
            refused("10", x, ARGUMENT, () -> x.nailer(10, 0, 0));
            due("1", x.told(0, 0), 1);
            due("9", x.told(1, 0), 9);
        });
        edge("none, at first: the first nailer", () -> {
            NailRods x = new NailRods();
            x.nailer(7, 2, 3);
            dueTold(x, 0, 7, 2, 3, 0, 0, 0, 10, 5, 0, 0, 0, 0);
            dueNoNails(x, 0);
        });
        edge("none, at first: one who comes late, behind busy ones", () -> {
            NailRods x = one(9, SPIKES, 29, 20);
            x.pass(100);
            x.nailer(8, 1, 2);
            dueTold(x, 1, 8, 1, 2, 0, 0, 0, 10, 5, 0, 0, 0, 0);
            dueNoNails(x, 1);
        });
        edge("none, at first: the twelfth nailer", () -> {
            NailRods x = crowd(11);
            x.pass(3);
            x.nailer(2, 3, 1);
            dueTold(x, 11, 2, 3, 1, 0, 0, 0, 10, 5, 0, 0, 0, 0);
            dueNoNails(x, 11);
        });
        edge("loose nails of each kind, 0 (at first) to 999: 999 stay loose", () -> {
            NailRods x = one(9, HOBS, 20, 20);
            x.pass(2);
            x.make(0, TACKS);
            x.pass(1);
            x.make(0, HOBS);
            due("44 and 19 * 49 more than 24", x.pass(20), 44 + 19 * 49);
            due("loose", x.nails(0, HOBS, 0), 999);
            due("bags", x.nails(0, HOBS, 1), 0);
            x.pass(1);
            due("loose, an hour later", x.nails(0, HOBS, 0), 48);
            due("bags, an hour later", x.nails(0, HOBS, 1), 1);
        });
    }

    private static void dueNoNails(NailRods x, int nailer) {
        for (int kind = 0; kind < 4; kind++) {
            due("loose", x.nails(nailer, kind, 0), 0);
            due("bags", x.nails(nailer, kind, 1), 0);
        }
    }

    private static void foggers() {
        edge("Foggers. There are 4, 0 to 3", () -> {
            NailRods x = new NailRods();
            due("fogger 0", x.fogger(0, 1), 60);
            due("fogger 3", x.fogger(3, 1), 60);
            refused("fogger 4", x, INDEX, () -> x.fogger(4, 1));
            refused("fogger -1", x, INDEX, () -> x.fogger(-1, 1));
        });
        edge("coins (60, at first)", () -> {
            NailRods x = new NailRods();
            for (int f = 0; f < 4; f++) {
                due("coins of " + f, x.fogger(f, 1), 60);
            }
        });
        edge("keeps back some of a hundred, 0 to 60", () -> {
            NailRods x = new NailRods();
            refused("-1", x, ARGUMENT, () -> x.keep(1, -1));
            x.keep(1, 0);
            due("0", x.fogger(1, 0), 0);
            x.keep(1, 60);
            due("60", x.fogger(1, 0), 60);
            refused("61", x, ARGUMENT, () -> x.keep(1, 61));
        });
        edge("20, at first", () -> {
            NailRods x = new NailRods();
            for (int f = 0; f < 4; f++) {
                due("kept back by " + f, x.fogger(f, 0), 20);
            }
        });
    }

    private static void fires() {
        edge("the heat is 2 more (at most 9)", () -> {
            NailRods x = one(1, TACKS, 0, 0);
            dueHeats(x, 2, 4, 6, 8, 9, 9, 9, 9, 9, 9);
        });
        edge("at most 9, from 7 too", () -> {
            NailRods x = one(1, TACKS, 0, 0);
            x.pass(12);
            x.coal(0, 4);
            dueHeats(x, 5, 7, 9, 9);
        });
        edge("without coal it is 3 less (at least 0)", () -> {
            NailRods x = one(1, TACKS, 0, 0);
            x.pass(10);
            dueHeats(x, 6, 3, 0, 0, 0);
        });
        edge("at least 0, from 1 and from 2 too", () -> {
            NailRods x = one(1, TACKS, 0, 0);
            x.pass(12);
            x.coal(0, 2);
            dueHeats(x, 5, 7, 4, 1, 0, 0);
            x.coal(0, 1);
            dueHeats(x, 2, 0, 0);
        });
        edge("With coal, a coal is burnt: the last one too, and none without", () -> {
            NailRods x = one(1, TACKS, 0, 0);
            x.pass(9);
            due("coal behind 9 hours", x.told(0, 6), 1);
            x.pass(1);
            due("coal behind 10 hours", x.told(0, 6), 0);
            due("the last one heats", x.told(0, 5), 9);
            x.pass(1);
            due("coal behind 11 hours", x.told(0, 6), 0);
            due("nothing heats", x.told(0, 5), 6);
        });
        edge("With a heat of 4 or more this one can head", () -> {
            NailRods x = one(9, TACKS, 20, 0);
            due("with 2", x.pass(1), 0);
            due("with 4", x.pass(1), 72);
        });
        edge("With a heat of 4 or more: with 3 nothing", () -> {
            NailRods x = one(9, TACKS, 20, 0);
            x.pass(10);
            due("with 6", x.pass(1), 108);
            due("with 3", x.pass(1), 0);
            due("rods stay", x.told(0, 3), 14);
            due("what is in hand stays", x.told(0, 4), 36);
        });
        edge("With a heat of 4 or more: with 4 on the way down", () -> {
            NailRods x = one(9, TACKS, 20, 0);
            x.pass(12);
            x.coal(0, 2);
            x.pass(2);
            due("with 4", x.pass(1), 72);
            due("with 1", x.pass(1), 0);
        });
        edge("skill * heat * 2 / (kind + 1): the least, by skill 1", () -> {
            due("tacks", one(1, TACKS, 1, 0).pass(2), 8);
            due("clouts", one(1, CLOUTS, 1, 0).pass(2), 4);
            due("hobs", one(1, HOBS, 1, 0).pass(2), 2);
            due("spikes", one(1, SPIKES, 1, 0).pass(2), 2);
        });
        edge("skill * heat * 2 / (kind + 1): the most, by skill 9 with 9", () -> {
            dueInFifthHour(TACKS, 162 - 16);
            dueInFifthHour(CLOUTS, 81 - 8);
            dueInFifthHour(HOBS, 54 - 5);
            dueInFifthHour(SPIKES, 40 - 4);
        });
    }

    private static void dueInFifthHour(int kind, int good) {
        NailRods x = one(9, kind, 20, 0);
        x.pass(4);
        due("kind " + kind, x.pass(1), good);
    }

    private static void dueHeats(NailRods x, int... heats) {
        for (int i = 0; i < heats.length; i++) {
            x.pass(1);
            due("heat behind " + (i + 1), x.told(0, 5), heats[i]);
        }
    }

    private static void iron() {
        edge("as long as there is iron: to the last ounce", () -> {
            NailRods x = one(9, TACKS, 1, 0);
            x.pass(3);
            due("60 ounces for 144 tacks", x.told(0, 4), 60);
            due("60, less 6 burnt", x.pass(1), 54);
            due("in hand", x.told(0, 4), 0);
            due("then nothing", x.pass(1), 0);
        });
        edge("if fewer ounces are left: 1 for a tack is not fewer", () -> {
            NailRods x = one(8, HOBS, 5, 0);
            x.pass(2);
            x.make(0, TACKS);
            x.pass(5);
            dueIron(x, 1, 2, 0);
            x.pass(1);
            dueIron(x, 240 - 143, 1, 0);
        });
        edge("if fewer ounces are left: 2 for a clout are not fewer", () -> {
            NailRods x = twoOuncesForClouts();
            dueIron(x, 2, 2, 1);
            x.pass(1);
            dueIron(x, 240 - 71 * 2, 1, 1);
        });
        edge("if fewer ounces are left: 3 for a hob are not fewer", () -> {
            NailRods x = one(1, SPIKES, 2, 20);
            x.pass(2);
            x.make(0, HOBS);
            x.pass(13);
            dueIron(x, 3, 1, 0);
            x.pass(1);
            dueIron(x, 240 - 5 * 3, 0, 0);
        });
        edge("if fewer ounces are left: 6 for a spike are not fewer", () -> {
            NailRods x = one(9, TACKS, 2, 0);
            x.pass(2);
            x.make(0, SPIKES);
            x.pass(1);
            dueIron(x, 6, 1, 0);
            x.pass(1);
            dueIron(x, 240 - 35 * 6, 0, 0);
        });
        edge("they are scrap: 1 ounce for a clout", () -> {
            NailRods x = one(8, HOBS, 5, 0);
            x.pass(4);
            x.make(0, CLOUTS);
            x.pass(1);
            dueIron(x, 51, 3, 0);
            x.pass(1);
            dueIron(x, 240 - 47 * 2, 2, 1);
        });
        edge("they are scrap: 2 ounces for a hob", () -> {
            NailRods x = one(5, TACKS, 2, 0);
            x.pass(2);
            x.make(0, HOBS);
            x.pass(2);
            dueIron(x, 62, 1, 0);
            x.pass(1);
            dueIron(x, 240 - 10 * 3, 0, 2);
        });
        edge("they are scrap: 5 ounces for a spike", () -> {
            NailRods x = fiveOuncesForSpikes();
            dueIron(x, 5, 1, 0);
            due("two spikes", x.pass(1), 2);
            dueIron(x, 240 - 2 * 6, 0, 5);
        });
    }

    private static NailRods twoOuncesForClouts() {
        NailRods x = one(8, HOBS, 5, 0);
        x.pass(4);
        x.make(0, CLOUTS);
        x.pass(3);
        return x;
    }

    private static NailRods fiveOuncesForSpikes() {
        NailRods x = one(1, HOBS, 2, 2);
        x.pass(8);
        x.make(0, SPIKES);
        x.pass(5);
        x.make(0, CLOUTS);
        x.coal(0, 1);
        x.pass(1);
        x.make(0, SPIKES);
        return x;
    }

    private static void ironThatIsShort() {
        edge("a new rod is taken: not before a nail needs it", () -> {
            NailRods x = one(8, SPIKES, 2, 0);
            due("40 spikes", x.pass(3), 40);
            dueIron(x, 0, 1, 0);
            x.pass(1);
            dueIron(x, 240 - 32 * 6, 0, 0);
        });
        edge("a new rod is taken: not while the fire is too cold", () -> {
            NailRods x = one(9, TACKS, 1, 0);
            x.pass(1);
            dueIron(x, 0, 1, 0);
        });
        edge("scrap: none while the fire is too cold", () -> {
            NailRods x = fiveOuncesForSpikes();
            x.pass(1);
            x.make(0, TACKS);
            due("too cold", x.pass(1), 0);
            dueIron(x, 228, 0, 5);
        });
        edge("scrap of several rods comes together", () -> {
            NailRods x = twoOuncesForClouts();
            x.make(0, HOBS);
            x.pass(1);
            dueIron(x, 240 - 48 * 3, 1, 1 + 2);
        });
        edge("without a rod nothing more is headed: the nails of this hour until then count", () -> {
            NailRods x = one(5, TACKS, 1, 0);
            x.pass(2);
            x.make(0, HOBS);
            x.pass(2);
            due("20 of 30 hobs, less 2 burnt", x.pass(1), 18);
        });
        edge("and what is left in hand stays", () -> {
            NailRods x = one(5, TACKS, 1, 0);
            x.pass(2);
            x.make(0, HOBS);
            x.pass(3);
            dueIron(x, 2, 0, 0);
            due("an hour later", x.pass(1), 0);
            dueIron(x, 2, 0, 0);
            x.lend(0, 1);
            due("with a rod", x.pass(1), 27);
            dueIron(x, 240 - 30 * 3, 0, 2);
        });
        edge("and what is left in hand stays: enough for another kind", () -> {
            NailRods x = one(5, TACKS, 1, 0);
            x.pass(2);
            x.make(0, HOBS);
            x.pass(3);
            x.make(0, TACKS);
            due("two tacks", x.pass(1), 2);
            dueIron(x, 0, 0, 0);
        });
        edge("without a rod: never one at all", () -> {
            NailRods x = one(9, TACKS, 0, 0);
            due("good nails", x.pass(20), 0);
            dueIron(x, 0, 0, 0);
        });
    }

    /** Ounces in hand, rods and scrap. */
    private static void dueIron(NailRods x, int ounces, int rods, int scrap) {
        due("in hand", x.told(0, 4), ounces);
        due("rods", x.told(0, 3), rods);
        due("scrap", x.told(0, 9), scrap);
    }

    private static void burntNails() {
        edge("If the heat is 8 or 9: with 8", () -> {
            NailRods x = one(9, TACKS, 20, 0);
            x.pass(3);
            due("none before", x.told(0, 10), 0);
            due("good", x.pass(1), 144 - 14);
            due("heat", x.told(0, 5), 8);
            due("burnt", x.told(0, 10), 14);
        });
        edge("If the heat is 8 or 9: with 9", () -> {
            NailRods x = one(9, TACKS, 20, 0);
            x.pass(4);
            due("good", x.pass(1), 162 - 16);
            due("heat", x.told(0, 5), 9);
            due("burnt", x.told(0, 10), 14 + 16);
        });
        edge("If the heat is 8 or 9: with 7 none", () -> {
            NailRods x = one(9, TACKS, 20, 0);
            x.pass(12);
            x.coal(0, 2);
            int before = x.told(0, 10);
            due("with 5", x.pass(1), 90);
            due("with 7", x.pass(1), 126);
            due("heat", x.told(0, 5), 7);
            due("burnt", x.told(0, 10), before);
        });
        edge("a tenth (cut): of 9 none, in no hour", () -> {
            NailRods x = one(1, CLOUTS, 1, 0);
            due("4, 6, 8, 9 and 9", x.pass(6), 36);
            due("burnt", x.told(0, 10), 0);
        });
        edge("a tenth (cut): of 10 one", () -> {
            NailRods x = one(2, HOBS, 1, 0);
            x.pass(3);
            due("good", x.pass(1), 9);
            due("burnt", x.told(0, 10), 1);
        });
        edge("a tenth (cut): of 18 one", () -> {
            NailRods x = one(4, SPIKES, 3, 0);
            x.pass(4);
            due("of 16", x.told(0, 10), 1);
            due("good", x.pass(1), 17);
            due("burnt", x.told(0, 10), 2);
        });
        edge("a tenth (cut): of 20 two", () -> {
            NailRods x = one(5, SPIKES, 3, 0);
            x.pass(3);
            due("good", x.pass(1), 18);
            due("burnt", x.told(0, 10), 2);
        });
        edge("of the nails that were headed in this hour: not of those that could be", () -> {
            NailRods x = one(9, HOBS, 1, 0);
            x.pass(3);
            due("20 of 48", x.pass(1), 18);
            due("burnt", x.told(0, 10), 2);
        });
        edge("of the nails that were headed in this hour: of two rods together", () -> {
            NailRods x = one(9, SPIKES, 4, 0);
            x.pass(4);
            dueIron(x, 234, 1, 0);
            due("39 and 1", x.pass(1), 36);
            dueIron(x, 234, 0, 0);
        });
        edge("the others are loose: burnt ones are not", () -> {
            NailRods x = one(9, TACKS, 20, 0);
            x.pass(4);
            due("loose", x.nails(0, TACKS, 0), 72 + 108 + 130);
        });
    }

    private static void bags() {
        edge("A thousand loose nails of a kind are put into a bag at once: just 1000", () -> {
            NailRods x = one(8, CLOUTS, 20, 20);
            x.pass(2);
            x.make(0, TACKS);
            x.pass(1);
            x.make(0, CLOUTS);
            x.pass(14);
            due("loose before", x.nails(0, CLOUTS, 0), 32 + 58 + 13 * 65);
            due("bags before", x.nails(0, CLOUTS, 1), 0);
            due("the last 65", x.pass(1), 65);
            due("loose", x.nails(0, CLOUTS, 0), 0);
            due("bags", x.nails(0, CLOUTS, 1), 1);
        });
        edge("put into a bag at once: what is more than 1000 stays loose", () -> {
            NailRods x = one(9, TACKS, 20, 0);
            x.pass(8);
            due("loose before", x.nails(0, TACKS, 0), 894);
            x.pass(1);
            due("loose", x.nails(0, TACKS, 0), 40);
            due("bags", x.nails(0, TACKS, 1), 1);
        });
        edge("put into a bag at once: bag for bag", () -> {
            NailRods x = one(9, TACKS, 20, 20);
            x.pass(31);
            due("loose", x.nails(0, TACKS, 0), 214);
            due("bags", x.nails(0, TACKS, 1), 4);
        });
        edge("loose nails of a kind: two kinds make no bag together", () -> {
            NailRods x = one(9, TACKS, 20, 20);
            x.pass(6);
            x.make(0, CLOUTS);
            x.pass(8);
            due("tacks", x.nails(0, TACKS, 0), 602);
            due("clouts", x.nails(0, CLOUTS, 0), 584);
            due("bags", x.count(5), 0);
        });
        edge("loose nails of a kind: two nailers make no bag together", () -> {
            NailRods x = one(9, TACKS, 10, 0);
            x.nailer(9, TACKS, 0);
            x.lend(1, 10);
            x.pass(8);
            due("loose", x.count(4), 2 * 894);
            due("bags", x.count(5), 0);
        });
    }

    private static void lastHours() {
        edge("In the last hour of a week: a bag that is filled in it is sold", () -> {
            NailRods x = spikesFrom(18);
            x.pass(29);
            due("the hour", x.count(0), 47);
            due("loose", x.nails(0, SPIKES, 0), 978);
            x.pass(1);
            due("loose", x.nails(0, SPIKES, 0), 14);
            due("bags", x.nails(0, SPIKES, 1), 0);
            due("bought", x.fogger(0, 3), 1);
        });
        edge("In the last hour of a week: a bag that is filled an hour later stays for a week", () -> {
            NailRods x = spikesFrom(19);
            x.pass(30);
            due("the hour", x.count(0), 49);
            due("bags", x.nails(0, SPIKES, 1), 1);
            x.pass(46);
            due("bags behind 95", x.nails(0, SPIKES, 1), 1);
            x.pass(1);
            due("bags behind 96", x.nails(0, SPIKES, 1), 0);
            due("bought", x.fogger(0, 3), 1);
        });
        edge("the remainder by 48 is 47: a bag waits until then", () -> {
            NailRods x = spikesFrom(0);
            x.pass(47);
            due("bags behind 47", x.nails(0, SPIKES, 1), 1);
            due("bought behind 47", x.fogger(0, 3), 0);
            x.pass(1);
            due("bags behind 48", x.nails(0, SPIKES, 1), 0);
            due("bought behind 48", x.fogger(0, 3), 1);
        });
        edge("the nailers reckon with their foggers: the one of this hour", () -> {
            NailRods x = new NailRods();
            x.nailer(1, TACKS, 0);
            x.change(0, 3);
            x.lend(0, 1);
            x.pass(48);
            due("coins of the one before", x.fogger(0, 1), 60);
            due("coins of this one", x.fogger(3, 1), 63);
        });
        edge("The hour is 1 greater: also in the last of a week", () -> {
            NailRods x = new NailRods();
            x.pass(47);
            due("47", x.count(0), 47);
            x.pass(1);
            due("48", x.count(0), 48);
            x.pass(1);
            due("49", x.count(0), 49);
        });
    }

    /** One nailer who comes in this hour, and fills a bag of spikes in the thirtieth of his own. */
    private static NailRods spikesFrom(int hour) {
        NailRods x = new NailRods();
        if (hour > 0) {
            x.pass(hour);
        }
        x.nailer(9, SPIKES, 0);
        x.lend(0, 20);
        x.lend(0, 9);
        x.coal(0, 20);
        return x;
    }

    private static void prices() {
        edge("what it is worth * (100 - what is kept back) / 100: 0 is kept back", () -> duePaid(0, 8, 14, 20, 36));
        edge("(cut): 1 is kept back", () -> duePaid(1, 7, 13, 19, 35));
        edge("(cut): 20 are kept back", () -> duePaid(20, 6, 11, 16, 28));
        edge("(cut): 50 are kept back", () -> duePaid(50, 4, 7, 10, 18));
        edge("(cut): 60 are kept back", () -> duePaid(60, 3, 5, 8, 14));
        edge("what the fogger keeps back: in this hour, not when the bag was filled", () -> {
            NailRods x = spikesFrom(0);
            x.pass(47);
            x.keep(0, 60);
            x.pass(1);
            x.keep(0, 0);
            due("paid", x.fogger(0, 4), 14);
        });
    }

    /** Coins for a bag of each kind; for four bags of tacks and two of clouts each is cut by itself. */
    private static void duePaid(int part, int tacks, int clouts, int hobs, int spikes) {
        duePaidFor(part, TACKS, 4, tacks, 8);
        duePaidFor(part, CLOUTS, 2, clouts, 14);
        duePaidFor(part, HOBS, 1, hobs, 20);
        duePaidFor(part, SPIKES, 1, spikes, 36);
    }

    private static void duePaidFor(int part, int kind, int bags, int price, int worth) {
        NailRods x = one(9, kind, 29, 20);
        x.keep(0, part);
        x.pass(48);
        String of = " of kind " + kind;
        due("bags" + of, x.fogger(0, 3), bags);
        due("paid" + of, x.fogger(0, 4), bags * price);
        due("gained" + of, x.fogger(0, 5), bags * (worth - price));
        due("coins" + of, x.fogger(0, 1), 60 + bags * worth);
        due("still owed" + of, x.told(0, 8), 87 - bags * price);
        due("bags that stay" + of, x.nails(0, kind, 1), 0);
    }

    private static void debts() {
        edge("as far as there are coins: more than are owed", () -> dueReckoned(1, 0, 0, 2, 63));
        edge("as far as there are coins: just as many", () -> dueReckoned(1, 8, 0, 0, 63));
        edge("as far as there are coins: one too few", () -> dueReckoned(2, 0, 1, 0, 65));
        edge("as far as there are coins: none", () -> dueReckoned(1, 20, 3, 0, 60));
        edge("as far as there are coins: nothing is owed", () -> dueReckoned(0, 0, 0, 5, 60));
        edge("Then the nailer pays what is owed: with what the bags of this hour brought", () -> {
            NailRods x = spikesFrom(0);
            due("without coins", x.told(0, 7), 0);
            x.pass(48);
            due("owed", x.told(0, 8), 87 - 28);
            due("coins", x.told(0, 7), 0);
        });
        edge("the nailer pays what is owed: what is not paid is paid a week later", () -> {
            NailRods x = one(1, TACKS, 2, 0);
            x.pass(48);
            due("owed", x.told(0, 8), 1);
            x.pass(48);
            due("owed without coins", x.told(0, 8), 1);
            due("the fogger's coins", x.fogger(0, 1), 65);
        });
    }

    /** What is owed, the coins of both, behind a week with so many rods and so much coal. */
    private static void dueReckoned(int rods, int coal, int owed, int coins, int foggersCoins) {
        NailRods x = one(1, TACKS, rods, coal);
        x.pass(48);
        due("owed", x.told(0, 8), owed);
        due("coins", x.told(0, 7), coins);
        due("the fogger's coins", x.fogger(0, 1), foggersCoins);
    }

    private static void warehouse() {
        edge("brings the bags to the warehouse, and has coins more: not a bag, not a coin", () -> {
            NailRods x = one(1, TACKS, 0, 0);
            x.pass(48);
            due("bags", x.count(6), 0);
            due("coins", x.fogger(0, 1), 60);
        });
        edge("each fogger brings the bags that were bought: each his own", () -> {
            NailRods x = one(9, SPIKES, 29, 20);
            x.nailer(9, TACKS, 3);
            x.lend(1, 20);
            x.coal(1, 20);
            x.pass(48);
            due("bags", x.count(6), 5);
            due("coins of 0", x.fogger(0, 1), 60 + 36);
            due("coins of 1", x.fogger(1, 1), 60);
            due("coins of 2", x.fogger(2, 1), 60);
            due("coins of 3", x.fogger(3, 1), 60 + 4 * 8);
        });
        edge("brings the bags that were bought: once", () -> {
            NailRods x = spikesFrom(0);
            x.pass(240);
            due("bags", x.count(6), 1);
            due("coins", x.fogger(0, 1), 60 + 36);
            due("gained", x.fogger(0, 5), 36 - 28);
        });
    }

    private static void exceptions() {
        edge("A method that throws an exception changes nothing: what comes later neither", () -> {
            NailRods x = spikesFrom(0);
            NailRods twin = spikesFrom(0);
            for (int hour = 0; hour < 100; hour++) {
                refuseAll(x);
                due("good in hour " + hour, x.pass(1), twin.pass(1));
                due("digest in hour " + hour, x.digest(), twin.digest());
            }
        });
    }

    private static void refuseAll(NailRods x) {
        refused("nailer", x, ARGUMENT, () -> x.nailer(10, 0, 0));
        refused("lend", x, STATE, () -> x.lend(0, 20));
        refused("coal", x, STATE, () -> x.coal(0, 99));
        refused("make", x, INDEX, () -> x.make(0, 4));
        refused("change", x, STATE, () -> x.change(0, 1));
        refused("told", x, INDEX, () -> x.told(0, 12));
        refused("nails", x, INDEX, () -> x.nails(0, 0, 2));
        refused("keep", x, ARGUMENT, () -> x.keep(0, 61));
        refused("fogger", x, INDEX, () -> x.fogger(0, 6));
        refused("count", x, INDEX, () -> x.count(11));
        refused("pass", x, ARGUMENT, () -> x.pass(241));
        refused("rate", x, INDEX, () -> x.rate(1));
        refused("when", x, ARGUMENT, () -> x.when(0, 10000));
        refused("foresee", x, INDEX, () -> x.foresee(240, 9));
        refused("advise", x, ARGUMENT, () -> x.advise(0, 121));
    }

    /** An object with one nailer, of fogger 0, who has lent so many rods and bought so much coal. */
    private static NailRods one(int skill, int kind, int rods, int coal) {
        NailRods x = new NailRods();
        x.nailer(skill, kind, 0);
        for (int left = rods; left > 0; left -= 20) {
            x.lend(0, Math.min(left, 20));
        }
        if (coal > 0) {
            x.coal(0, coal);
        }
        return x;
    }

    private static NailRods crowd(int nailers) {
        NailRods x = new NailRods();
        for (int i = 0; i < nailers; i++) {
            x.nailer(5, 0, 0);
        }
        return x;
    }

    private static void edge(String name, Runnable test) {
        sentence = name;
        sentences++;
        try {
            test.run();
        } catch (RuntimeException e) {
            complain("the test", e.getClass().getName(), "an answer");
        }
    }

    private static void dueTold(NailRods x, int nailer, int... wanted) {
        for (int what = 0; what < wanted.length; what++) {
            due("told(" + nailer + ", " + what + ")", x.told(nailer, what), wanted[what]);
        }
    }

    private static void due(String what, long got, long wanted) {
        if (got != wanted) {
            complain(what, String.valueOf(got), String.valueOf(wanted));
        }
    }

    /** The call throws exactly this, and changes nothing. */
    private static void refused(String what, NailRods x, Class<?> wanted, LongSupplier call) {
        long before = x.digest();
        String got;
        try {
            got = String.valueOf(call.getAsLong());
        } catch (RuntimeException e) {
            got = e.getClass().getName();
        }
        if (!got.equals(wanted.getName())) {
            complain(what, got, wanted.getName());
        }
        due(what + " changes nothing", x.digest(), before);
    }

    private static void complain(String what, String got, String wanted) {
        wrong++;
        System.out.println(sentence + ": " + what + ": " + got + ", due is " + wanted);
    }
}

import java.lang.reflect.Array;
import java.lang.reflect.Field;

/**
 * Edges that the document names and no run of calls comes to, since a rod costs more than its nails bring: the numbers
 * are put into the object's private fields first. If the class holds its state in other fields, nothing can be looked
 * at here, and the test says so: then its names of fields must be put right.
 */
public final class NailRodsEdgesOutOfReach {
    private static final int TACKS = 0;
    private static final int CLOUTS = 1;
    private static final int HOBS = 2;
    private static final int SPIKES = 3;

    private static int wrong = 0;
    private static int sentences = 0;
    private static String sentence = "";

    public static void main(String[] args) throws ReflectiveOperationException {
        if (!fieldsAreKnown()) {
            System.out.println("LEFT OUT: the class holds its state in other fields than this test knows");
            return;
        }
        coal();
        foggersCoins();
        orderOfKinds();
        coinsForThoseBehind();
        bagsThatStay();
        nailersCoins();
        when();
        System.out.println(wrong == 0 ? sentences + " edges out of reach hold" : wrong + " answers are wrong");
        if (wrong != 0) {
            System.exit(1);
        }
    }

    private static boolean fieldsAreKnown() {
        try {
            NailRods x = crowd(1);
            put(nailer(x, 0), "coal", 10);
            put(nailer(x, 0), "coins", 5);
            put(nailer(x, 0), "owed", 0);
            put(nailer(x, 0), "rods", 0);
            put(fogger(x, 0), "coins", 60);
            putBags(x, 0, 0, 0, 0, 0);
            return true;
        } catch (ReflectiveOperationException | RuntimeException e) {
            return false;
        }
    }

    private static void coal() throws ReflectiveOperationException {
        sentence("4: or there would be more than 99: 99 are not");
        NailRods x = crowd(1);
        put(nailer(x, 0), "coins", 100);
        due("89 more", x.coal(0, 89), 99);
        due("coins", x.told(0, 7), 100 - 23);

        sentence("4: or there would be more than 99: 100 are");
        NailRods y = crowd(1);
        put(nailer(y, 0), "coins", 100);
        dueCoalRefused(y, 90);
        due("99 in all", y.coal(0, 89), 99);
        dueCoalRefused(y, 1);

        sentence("4: if coal is not 1 to 99: 99 for one who has none");
        NailRods z = crowd(1);
        put(nailer(z, 0), "coins", 25);
        put(nailer(z, 0), "coal", 0);
        due("99", z.coal(0, 99), 99);
        due("coins", z.told(0, 7), 0);

        sentence("4: if there are not so many coins: 24 for 99");
        NailRods w = crowd(1);
        put(nailer(w, 0), "coins", 24);
        put(nailer(w, 0), "coal", 0);
        dueCoalRefused(w, 99);
    }

    private static void dueCoalRefused(NailRods x, int coal) {
        long before = x.digest();
        String got;
        try {
            got = String.valueOf(x.coal(0, coal));
        } catch (IllegalStateException e) {
            got = "refused";
        }
        if (!got.equals("refused")) {
            complain(coal + " more", got, "IllegalStateException");
        }
        due("digest", x.digest(), before);
    }

    private static void foggersCoins() throws ReflectiveOperationException {
        sentence("if the fogger has so many coins: just so many");
        NailRods x = crowd(1);
        putBags(x, 0, 0, 0, 0, 1);
        put(fogger(x, 0), "coins", 28);
        x.pass(48);
        due("bags", x.nails(0, SPIKES, 1), 0);
        due("the nailer's coins", x.told(0, 7), 5 + 28);
        due("the fogger's coins", x.fogger(0, 1), 36);

        sentence("otherwise the bag stays with the nailer: a coin too few");
        NailRods y = crowd(1);
        putBags(y, 0, 0, 0, 0, 1);
        put(fogger(y, 0), "coins", 27);
        y.pass(48);
        due("bags", y.nails(0, SPIKES, 1), 1);
        due("the nailer's coins", y.told(0, 7), 5);
        due("the fogger's coins", y.fogger(0, 1), 27);
        due("bought", y.fogger(0, 3), 0);
        due("paid", y.fogger(0, 4), 0);

        sentence("For each bag: as many as there are coins for");
        NailRods z = crowd(1);
        putBags(z, 0, 5, 0, 0, 0);
        put(fogger(z, 0), "coins", 23);
        z.pass(48);
        due("bags", z.nails(0, TACKS, 1), 2);
        due("bought", z.fogger(0, 3), 3);
        due("the fogger's coins", z.fogger(0, 1), 23 - 18 + 24);
    }

    private static void orderOfKinds() throws ReflectiveOperationException {
        sentence("For each bag, those of the kind 0 first, and so on");
        NailRods x = crowd(1);
        putBags(x, 0, 2, 2, 2, 2);
        put(fogger(x, 0), "coins", 2 * 6 + 2 * 11 + 16);
        x.pass(48);
        dueBags(x, 0, 0, 0, 1, 2);
        due("paid", x.fogger(0, 4), 50);

        sentence("otherwise the bag stays: of each kind");
        NailRods y = crowd(1);
        putBags(y, 0, 1, 1, 1, 1);
        put(fogger(y, 0), "coins", 5);
        y.pass(48);
        dueBags(y, 0, 1, 1, 1, 1);
        due("foreseen for the next week", y.foresee(48, 5), 4);
    }

    private static void coinsForThoseBehind() throws ReflectiveOperationException {
        sentence("Nailers, by numbers, reckon: the first one sells first");
        NailRods x = crowd(2);
        putBags(x, 0, 0, 0, 0, 1);
        putBags(x, 1, 0, 0, 0, 1);
        put(fogger(x, 0), "coins", 28 + 27);
        x.pass(48);
        dueBags(x, 0, 0, 0, 0, 0);
        dueBags(x, 1, 0, 0, 0, 1);

        sentence("with these the fogger can pay the nailers behind");
        NailRods y = crowd(2);
        put(nailer(y, 0), "owed", 4);
        putBags(y, 1, 0, 0, 0, 1);
        put(fogger(y, 0), "coins", 24);
        y.pass(48);
        dueBags(y, 1, 0, 0, 0, 0);
        due("the fogger's coins", y.fogger(0, 1), 36);

        sentence("with these the fogger can pay the nailers behind: not the same one, and none before");
        NailRods z = crowd(2);
        put(nailer(z, 1), "owed", 4);
        putBags(z, 0, 0, 0, 0, 1);
        putBags(z, 1, 0, 0, 0, 1);
        put(fogger(z, 0), "coins", 27);
        z.pass(48);
        dueBags(z, 0, 0, 0, 0, 1);
        dueBags(z, 1, 0, 0, 0, 1);
        due("the fogger's coins", z.fogger(0, 1), 31);

        sentence("Behind all nailers each fogger has coins more: these can't pay the nailers behind");
        NailRods w = crowd(2);
        putBags(w, 0, 0, 0, 0, 1);
        putBags(w, 1, 0, 0, 0, 1);
        put(fogger(w, 0), "coins", 28);
        w.pass(48);
        dueBags(w, 1, 0, 0, 0, 1);
        due("the fogger's coins", w.fogger(0, 1), 36);
    }

    private static void bagsThatStay() throws ReflectiveOperationException {
        sentence("the bag stays with the nailer: until a week in which there are coins");
        NailRods x = crowd(1);
        putBags(x, 0, 0, 0, 0, 2);
        put(fogger(x, 0), "coins", 28);
        x.pass(48);
        due("bags behind a week", x.count(5), 1);
        due("in the warehouse behind a week", x.count(6), 1);
        x.pass(47);
        due("bags behind 95", x.count(5), 1);
        x.pass(1);
        due("bags behind two weeks", x.count(5), 0);
        due("in the warehouse behind two weeks", x.count(6), 2);
        due("the fogger's coins", x.fogger(0, 1), 36 - 28 + 36);
        due("gained", x.fogger(0, 5), 2 * 8);

        sentence("each fogger: another one's coins don't help");
        NailRods y = crowd(1);
        putBags(y, 0, 0, 0, 0, 1);
        put(fogger(y, 0), "coins", 0);
        put(fogger(y, 1), "coins", 1000);
        y.pass(48);
        due("bags", y.count(5), 1);
    }

    private static void nailersCoins() throws ReflectiveOperationException {
        sentence("Then the nailer pays what is owed: what the bags bring above it stays");
        NailRods x = crowd(1);
        putBags(x, 0, 1, 1, 1, 0);
        put(nailer(x, 0), "owed", 30);
        x.pass(48);
        due("owed", x.told(0, 8), 0);
        due("coins", x.told(0, 7), 5 + 6 + 11 + 16 - 30);
        due("the fogger's coins", x.fogger(0, 1), 60 - 33 + 30 + 8 + 14 + 20);

        sentence("17: the nailer with the most coins: more than at first");
        NailRods y = crowd(3);
        put(nailer(y, 1), "coins", 33);
        put(nailer(y, 2), "coins", 33);
        due("of two", y.richest(), 1);
    }

    private static void when() throws ReflectiveOperationException {
        sentence("14: at most 480");
        NailRods x = crowd(1);
        x.make(0, SPIKES);
        put(nailer(x, 0), "coal", 1000);
        put(nailer(x, 0), "rods", 1000);
        // Skill 5: 10 with the heat 4, 15 with 6, 18 with 8, and then 20 in each of 476 hours.
        due("the last hour", x.when(0, 10 + 15 + 18 + 476 * 20), 480);
        due("an hour before", x.when(0, 10 + 15 + 18 + 475 * 20), 479);

        sentence("14: -1 if not by then");
        due("an hour behind", x.when(0, 10 + 15 + 18 + 476 * 20 + 1), -1);
    }

    private static Object nailer(NailRods x, int number) throws ReflectiveOperationException {
        return Array.get(field(field(x, "trade"), "nailers"), number);
    }

    private static Object fogger(NailRods x, int number) throws ReflectiveOperationException {
        return Array.get(field(field(x, "trade"), "foggers"), number);
    }

    private static Object field(Object owner, String name) throws ReflectiveOperationException {
        Field field = owner.getClass().getDeclaredField(name);
        field.setAccessible(true);
        return field.get(owner);
    }

    private static void put(Object owner, String name, int value) throws ReflectiveOperationException {
        Field field = owner.getClass().getDeclaredField(name);
        field.setAccessible(true);
        field.setInt(owner, value);
    }

    private static void putBags(NailRods x, int number, int... bags) throws ReflectiveOperationException {
        int[] row = (int[]) field(nailer(x, number), "bags");
        System.arraycopy(bags, 0, row, 0, bags.length);
    }

    private static NailRods crowd(int nailers) {
        NailRods x = new NailRods();
        for (int i = 0; i < nailers; i++) {
            x.nailer(5, TACKS, 0);
        }
        return x;
    }

    private static void dueBags(NailRods x, int nailer, int tacks, int clouts, int hobs, int spikes) {
        due("bags of tacks", x.nails(nailer, TACKS, 1), tacks);
        due("bags of clouts", x.nails(nailer, CLOUTS, 1), clouts);
        due("bags of hobs", x.nails(nailer, HOBS, 1), hobs);
        due("bags of spikes", x.nails(nailer, SPIKES, 1), spikes);
    }

    private static void sentence(String name) {
        sentence = name;
        sentences++;
    }

    private static void due(String what, long got, long wanted) {
        if (got != wanted) {
            complain(what, String.valueOf(got), String.valueOf(wanted));
        }
    }

    private static void complain(String what, String got, String wanted) {
        wrong++;
        System.out.println(sentence + ": " + what + ": " + got + ", due is " + wanted);
    }
}

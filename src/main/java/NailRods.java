/** Nail makers who work by the rod, and the foggers who lend them rods and buy their bags. */
public final class NailRods {
    private static final int KINDS = 4;
    private static final int FOGGERS = 4;
    private static final int MOST_NAILERS = 12;
    private static final int MOST_COAL = 99;
    private static final int MOST_OWED = 90;
    private static final int ROD_PRICE = 3;
    private static final int COAL_FOR_A_COIN = 4;
    private static final int ROD_OUNCES = 240;
    private static final int BAG_NAILS = 1000;
    private static final int WEEK_HOURS = 48;
    private static final int HOTTEST = 9;
    private static final int HEADING_HEAT = 4;
    private static final int BURNING_HEAT = 8;
    private static final int TOLD_NUMBERS = 12;
    private static final int NAILS_NUMBERS = 2;
    private static final int FOGGER_NUMBERS = 6;
    private static final int COUNT_NUMBERS = 11;

    /** Ounces of iron that a nail of each kind takes. */
    private static final int[] OUNCES = {1, 2, 3, 6};
    /** Coins that a bag of each kind is worth. */
    private static final int[] WORTH = {8, 14, 20, 36};

    private final Trade trade;
    // What would be is tried out on these two, made once, so that no call makes objects.
    private final Trade foreseen;
    private final Nailer trial;

    public NailRods() {
        trade = new Trade();
        foreseen = new Trade();
        trial = new Nailer();
    }

    // ---- nailers

    public int nailer(int skill, int kind, int fogger)
            throws IndexOutOfBoundsException, IllegalArgumentException, IllegalStateException {
        needIndex(kind, KINDS);
        needIndex(fogger, FOGGERS);
        needWithin(skill, 1, 9);
        if (trade.nailerCount >= MOST_NAILERS) {
            throw new IllegalStateException("there are 12 nailers");
        }
        int number = trade.nailerCount;
        trade.nailers[number].begin(skill, kind, fogger);
        trade.nailerCount = number + 1;
        return number;
    }

    public int lend(int nailer, int rods)
            throws IndexOutOfBoundsException, IllegalArgumentException, IllegalStateException {
        needNailer(nailer);
        needWithin(rods, 1, 20);
        Nailer borrower = trade.nailers[nailer];
        int owed = borrower.owed + rods * ROD_PRICE;
        if (owed > MOST_OWED) {
            throw new IllegalStateException("more than 90 would be owed");
        }
        borrower.rods += rods;
        borrower.owed = owed;
        return owed;
    }

    public int coal(int nailer, int coal)
            throws IndexOutOfBoundsException, IllegalArgumentException, IllegalStateException {
        needNailer(nailer);
        needWithin(coal, 1, MOST_COAL);
        Nailer buyer = trade.nailers[nailer];
        int price = (coal + COAL_FOR_A_COIN - 1) / COAL_FOR_A_COIN;
        if (price > buyer.coins || buyer.coal + coal > MOST_COAL) {
            throw new IllegalStateException("too few coins, or too much coal");
        }
        buyer.coins -= price;
        buyer.coal += coal;
        return buyer.coal;
    }

    public int make(int nailer, int kind) throws IndexOutOfBoundsException {
        needNailer(nailer);
        needIndex(kind, KINDS);
        int before = trade.nailers[nailer].kind;
        trade.nailers[nailer].kind = kind;
        return before;
    }

    public int change(int nailer, int fogger) throws IndexOutOfBoundsException, IllegalStateException {
        needNailer(nailer);
        needIndex(fogger, FOGGERS);
        Nailer leaver = trade.nailers[nailer];
        if (leaver.owed > 0) {
            throw new IllegalStateException("something is owed");
        }
        int before = leaver.fogger;
        leaver.fogger = fogger;
        return before;
    }

    public int told(int nailer, int what) throws IndexOutOfBoundsException {
        needNailer(nailer);
        needIndex(what, TOLD_NUMBERS);
        return trade.nailers[nailer].number(what);
    }

    public int nails(int nailer, int kind, int what) throws IndexOutOfBoundsException {
        needNailer(nailer);
        needIndex(kind, KINDS);
        needIndex(what, NAILS_NUMBERS);
        Nailer owner = trade.nailers[nailer];
        return what == 0 ? owner.loose[kind] : owner.bags[kind];
    }

    // ---- foggers

    public int keep(int fogger, int part) throws IndexOutOfBoundsException, IllegalArgumentException {
        needIndex(fogger, FOGGERS);
        needWithin(part, 0, 60);
        int before = trade.foggers[fogger].keptBack;
        trade.foggers[fogger].keptBack = part;
        return before;
    }

    public int fogger(int fogger, int what) throws IndexOutOfBoundsException {
        needIndex(fogger, FOGGERS);
        needIndex(what, FOGGER_NUMBERS);
        return trade.foggerNumber(fogger, what);
    }

    public int count(int what) throws IndexOutOfBoundsException {
        needIndex(what, COUNT_NUMBERS);
        return trade.total(what);
    }

    // ---- hours and what would be

    public int pass(int hours) throws IllegalArgumentException {
        needWithin(hours, 1, 240);
        return trade.goBy(hours);
    }

    public int rate(int nailer) throws IndexOutOfBoundsException {
        needNailer(nailer);
        trial.copyFrom(trade.nailers[nailer]);
        return trial.workHours(1);
    }

    public int when(int nailer, int nails) throws IndexOutOfBoundsException, IllegalArgumentException {
        needNailer(nailer);
        needWithin(nails, 1, 9999);
        trial.copyFrom(trade.nailers[nailer]);
        int headed = 0;
        for (int hours = 1; hours <= 480; hours++) {
            headed += trial.workHours(1);
            if (headed >= nails) {
                return hours;
            }
        }
        return -1;
    }

    public int foresee(int hours, int what) throws IllegalArgumentException, IndexOutOfBoundsException {
        needWithin(hours, 1, 240);
        if (what < 3 || what > 8) {
            throw new IndexOutOfBoundsException("what is not 3 to 8");
        }
        foreseen.copyFrom(trade);
        foreseen.goBy(hours);
        return foreseen.total(what);
    }

    public int advise(int nailer, int hours) throws IndexOutOfBoundsException, IllegalArgumentException {
        needNailer(nailer);
        needWithin(hours, 1, 120);
        int best = 0;
        int bestWorth = -1;
        for (int kind = 0; kind < KINDS; kind++) {
            trial.copyFrom(trade.nailers[nailer]);
            trial.kind = kind;
            int worth = trial.workHours(hours) * WORTH[kind];
            if (worth > bestWorth) {
                best = kind;
                bestWorth = worth;
            }
        }
        return best;
    }

    public int richest() {
        int best = -1;
        int bestWealth = 0;
        for (int i = 0; i < trade.nailerCount; i++) {
            int wealth = trade.nailers[i].coins - trade.nailers[i].owed;
            if (best < 0 || wealth > bestWealth) {
                best = i;
                bestWealth = wealth;
            }
        }
        return best;
    }

    public double mean() {
        if (trade.nailerCount == 0) {
            return 0;
        }
        int heats = 0;
        for (int i = 0; i < trade.nailerCount; i++) {
            heats += trade.nailers[i].heat;
        }
        return (double) heats / trade.nailerCount;
    }

    public long digest() {
        long d = 1259;
        for (int what = 0; what < COUNT_NUMBERS; what++) {
            d = d * 31 + trade.total(what);
        }
        for (int i = 0; i < trade.nailerCount; i++) {
            d = trade.nailers[i].addToDigest(d);
        }
        for (int i = 0; i < FOGGERS; i++) {
            for (int what = 0; what < FOGGER_NUMBERS; what++) {
                d = d * 31 + trade.foggerNumber(i, what);
            }
        }
        return d;
    }

    private void needNailer(int nailer) {
        needIndex(nailer, trade.nailerCount);
    }

    private static void needIndex(int index, int end) {
        if (index < 0 || index >= end) {
            throw new IndexOutOfBoundsException("there is no such number");
        }
    }

    private static void needWithin(int value, int least, int most) {
        if (value < least || value > most) {
            throw new IllegalArgumentException("the value is out of its range");
        }
    }

    /** All nailers and foggers, and the hour. */
    private static final class Trade {
        private int hour;
        private int nailerCount;
        private final Nailer[] nailers;
        private final Fogger[] foggers;

        private Trade() {
            nailers = new Nailer[MOST_NAILERS];
            for (int i = 0; i < MOST_NAILERS; i++) {
                nailers[i] = new Nailer();
            }
            foggers = new Fogger[FOGGERS];
            for (int i = 0; i < FOGGERS; i++) {
                foggers[i] = new Fogger();
            }
        }

        private void copyFrom(Trade other) {
            hour = other.hour;
            nailerCount = other.nailerCount;
            for (int i = 0; i < nailerCount; i++) {
                nailers[i].copyFrom(other.nailers[i]);
            }
            for (int i = 0; i < FOGGERS; i++) {
                foggers[i].copyFrom(other.foggers[i]);
            }
        }

        /** Lets hours go by, and returns how many good nails are headed in them. */
        private int goBy(int hours) {
            int headed = 0;
            for (int i = 0; i < hours; i++) {
                headed += goByOne();
            }
            return headed;
        }

        private int goByOne() {
            int headed = 0;
            for (int i = 0; i < nailerCount; i++) {
                headed += nailers[i].workHour();
            }
            if (hour % WEEK_HOURS == WEEK_HOURS - 1) {
                reckonWeek();
            }
            hour++;
            return headed;
        }

        private void reckonWeek() {
            for (int i = 0; i < nailerCount; i++) {
                Fogger fogger = foggers[nailers[i].fogger];
                fogger.buyBags(nailers[i]);
                fogger.collectDebt(nailers[i]);
            }
            // Only behind all nailers: this week's bags bring no coins that could buy more of them.
            for (int i = 0; i < FOGGERS; i++) {
                foggers[i].deliver();
            }
        }

        /** What count() tells. */
        private int total(int what) {
            switch (what) {
                case 0:
                    return hour;
                case 1:
                    return nailerCount;
                case 6:
                    return warehouseBags();
                default:
                    return sumOfShares(what);
            }
        }

        private int warehouseBags() {
            int sum = 0;
            for (int i = 0; i < FOGGERS; i++) {
                sum += foggers[i].bought;
            }
            return sum;
        }

        private int sumOfShares(int what) {
            int sum = 0;
            for (int i = 0; i < nailerCount; i++) {
                sum += nailers[i].shareOfTotal(what);
            }
            return sum;
        }

        /** What fogger() tells. */
        private int foggerNumber(int fogger, int what) {
            switch (what) {
                case 0:
                    return foggers[fogger].keptBack;
                case 1:
                    return foggers[fogger].coins;
                case 2:
                    return workersFor(fogger);
                case 3:
                    return foggers[fogger].bought;
                case 4:
                    return foggers[fogger].paid;
                default:
                    return foggers[fogger].earned - foggers[fogger].paid;
            }
        }

        private int workersFor(int fogger) {
            int workers = 0;
            for (int i = 0; i < nailerCount; i++) {
                if (nailers[i].fogger == fogger) {
                    workers++;
                }
            }
            return workers;
        }
    }

    private static final class Nailer {
        private int skill;
        private int kind;
        private int fogger;
        private int rods;
        private int ounces;
        private int heat;
        private int coal;
        private int coins;
        private int owed;
        private int scrap;
        private int burnt;
        private int good;
        private final int[] loose;
        private final int[] bags;

        private Nailer() {
            coal = 10;
            coins = 5;
            loose = new int[KINDS];
            bags = new int[KINDS];
        }

        private void begin(int skill, int kind, int fogger) {
            this.skill = skill;
            this.kind = kind;
            this.fogger = fogger;
        }

        private void copyFrom(Nailer other) {
            skill = other.skill;
            kind = other.kind;
            fogger = other.fogger;
            rods = other.rods;
            ounces = other.ounces;
            heat = other.heat;
            coal = other.coal;
            coins = other.coins;
            owed = other.owed;
            scrap = other.scrap;
            burnt = other.burnt;
            good = other.good;
            for (int i = 0; i < KINDS; i++) {
                loose[i] = other.loose[i];
                bags[i] = other.bags[i];
            }
        }

        /** Works for some hours, and returns how many good nails are headed in them. */
        private int workHours(int hours) {
            int headed = 0;
            for (int i = 0; i < hours; i++) {
                headed += workHour();
            }
            return headed;
        }

        private int workHour() {
            tendFire();
            if (heat < HEADING_HEAT) {
                return 0;
            }
            int headed = head(skill * heat * 2 / (kind + 1));
            int spoilt = heat >= BURNING_HEAT ? headed / 10 : 0;
            burnt += spoilt;
            store(headed - spoilt);
            return headed - spoilt;
        }

        private void tendFire() {
            if (coal > 0) {
                coal--;
                heat = Math.min(heat + 2, HOTTEST);
            } else {
                heat = Math.max(heat - 3, 0);
            }
        }

        /** Heads at most so many nails, and returns how many the iron was enough for. */
        private int head(int most) {
            int headed = headFromHand(most);
            // Fewer are headed only if the rest in hand is too short, so it is scrap once a rod replaces it.
            while (headed < most && rods > 0) {
                rods--;
                scrap += ounces;
                ounces = ROD_OUNCES;
                headed += headFromHand(most - headed);
            }
            return headed;
        }

        private int headFromHand(int most) {
            int headed = Math.min(most, ounces / OUNCES[kind]);
            ounces -= headed * OUNCES[kind];
            return headed;
        }

        private void store(int nails) {
            good += nails;
            loose[kind] += nails;
            bags[kind] += loose[kind] / BAG_NAILS;
            loose[kind] %= BAG_NAILS;
        }

        /** What told() tells. */
        private int number(int what) {
            switch (what) {
                case 0:
                    return skill;
                case 1:
                    return kind;
                case 2:
                    return fogger;
                case 3:
                    return rods;
                case 4:
                    return ounces;
                case 5:
                    return heat;
                case 6:
                    return coal;
                case 7:
                    return coins;
                case 8:
                    return owed;
                case 9:
                    return scrap;
                case 10:
                    return burnt;
                default:
                    return good;
            }
        }

        /** What this one adds to those numbers of count() that are sums over the nailers. */
        private int shareOfTotal(int what) {
            switch (what) {
                case 2:
                    return heat >= HEADING_HEAT ? 1 : 0;
                case 3:
                    return rods;
                case 4:
                    return sumOf(loose);
                case 5:
                    return sumOf(bags);
                case 7:
                    return coins;
                case 8:
                    return owed;
                case 9:
                    return scrap;
                default:
                    return burnt;
            }
        }

        private static int sumOf(int[] row) {
            int sum = 0;
            for (int x : row) {
                sum += x;
            }
            return sum;
        }

        private long addToDigest(long start) {
            long d = start;
            for (int what = 0; what < TOLD_NUMBERS; what++) {
                d = d * 31 + number(what);
            }
            for (int i = 0; i < KINDS; i++) {
                d = d * 31 + loose[i];
                d = d * 31 + bags[i];
            }
            return d;
        }
    }

    private static final class Fogger {
        private int keptBack;
        private int coins;
        private int bought;
        private int paid;
        private int earned;
        private int loadWorth;

        private Fogger() {
            keptBack = 20;
            coins = 60;
        }

        private void copyFrom(Fogger other) {
            keptBack = other.keptBack;
            coins = other.coins;
            bought = other.bought;
            paid = other.paid;
            earned = other.earned;
            loadWorth = other.loadWorth;
        }

        private void buyBags(Nailer seller) {
            for (int kind = 0; kind < KINDS; kind++) {
                int price = WORTH[kind] * (100 - keptBack) / 100;
                while (seller.bags[kind] > 0 && coins >= price) {
                    seller.bags[kind]--;
                    seller.coins += price;
                    coins -= price;
                    paid += price;
                    bought++;
                    loadWorth += WORTH[kind];
                }
            }
        }

        private void collectDebt(Nailer debtor) {
            int payment = Math.min(debtor.owed, debtor.coins);
            debtor.owed -= payment;
            debtor.coins -= payment;
            coins += payment;
        }

        private void deliver() {
            coins += loadWorth;
            earned += loadWorth;
            loadWorth = 0;
        }
    }
}

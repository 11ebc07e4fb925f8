import java.util.Arrays;

/** A holiday cottage whose weeks its owners take by points, win by bids and swap. */
public final class CottageWeeks {
    public static final int NONE = -1;

    private static final int WEEKS = 20;
    private static final int MOST_OWNERS = 6;
    private static final int MOST_SHARE = 9;
    private static final int MOST_COST = 9;
    private static final int MOST_EXTRA = 20;
    private static final int MOST_OFFERS = 8;
    private static final int MOST_COINS = 999;
    private static final int MOST_TEXT = 120;
    private static final int MOST_CODE = 255;
    private static final int MOST_REMEMBERED = 14;
    private static final int SLOTS = 2;
    private static final int MOST_TURNS = 60;
    private static final int MOST_COMMANDS = 3;
    private static final int GROUP = 1000000;

    private static final int FIRST_COST = 3;

    private static final int POINTS_FOR_SHARE = 0;
    private static final int MOST_CARRIED = 1;
    private static final int MOST_HELD = 2;
    private static final int SETTINGS = 3;
    private static final int[] SETTING_AT_FIRST = {4, 5, 3};
    private static final int[] SETTING_LEAST = {1, 0, 1};
    private static final int[] SETTING_MOST = {20, 20, 10};

    private static final int GIVEN = 0;
    private static final int SPENT = 1;
    private static final int GOT_BACK = 2;
    private static final int LAPSED = 3;
    private static final int SWAPPED = 4;
    private static final int VOID = 5;
    private static final int REFUSED_TAKES = 6;
    private static final int PAID = 7;
    private static final int TOTALS = 8;

    private static final int TAKEN = 0;
    private static final int BECAUSE_SCHOOL = 1;
    private static final int BECAUSE_HELD = 2;
    private static final int BECAUSE_MOST_HELD = 3;
    private static final int BECAUSE_POINTS = 4;

    /** What a command of the house answers where the method of the face throws. */
    private static final int REFUSED = -2;

    private final House present = new House();
    private final House copy = new House();
    private final History history = new History();
    private final House[] slots = new House[SLOTS];
    private final boolean[] saved = new boolean[SLOTS];
    private final Text text = new Text();
    private final Matching matching = new Matching();

    public CottageWeeks() {
        for (int slot = 0; slot < SLOTS; slot++) {
            slots[slot] = new House();
        }
    }

    // ---- text

    public int append(int c) throws IllegalArgumentException, IllegalStateException {
        needRange(c, 0, MOST_CODE);
        if (text.isFull()) {
            throw new IllegalStateException("the text is full");
        }
        return text.add((char) c);
    }

    public int clearText() {
        return text.empty();
    }

    public int errorPosition() {
        return text.findError();
    }

    public int load() throws IllegalStateException {
        if (text.findError() != NONE) {
            throw new IllegalStateException("the text is not a house");
        }
        present.clear();
        history.forget();
        for (int slot = 0; slot < SLOTS; slot++) {
            saved[slot] = false;
        }
        return text.build(present);
    }

    // ---- what there is

    public int about(int what) throws IllegalArgumentException {
        switch (what) {
            case 0: return present.owners;
            case 1: return present.yearNumber;
            case 2: return present.weeksHeldBy(NONE);
            case 3: return present.totals[GIVEN];
            case 4: return present.totals[SPENT];
            case 5: return present.totals[GOT_BACK];
            case 6: return present.totals[LAPSED];
            case 7: return present.pointsOfAll();
            case 8: return present.bidsOfAll();
            case 9: return present.offers;
            case 10: return present.totals[SWAPPED];
            case 11: return present.totals[VOID];
            case 12: return present.totals[REFUSED_TAKES];
            case 13: return present.totals[PAID];
            default: throw new IllegalArgumentException("what is not 0 to 13");
        }
    }

    public int ownerOf(int o, int what) throws IndexOutOfBoundsException, IllegalArgumentException {
        needOwner(o);
        switch (what) {
            case 0: return present.shares[o];
            case 1: return present.points[o];
            case 2: return present.weeksHeldBy(o);
            case 3: return present.won[o];
            case 4: return present.paid[o];
            case 5: return present.lowestWeekHeldBy(o);
            case 6: return present.bidsBy(o);
            default: throw new IllegalArgumentException("what is not 0 to 6");
        }
    }

    public int weekOf(int w, int what) throws IndexOutOfBoundsException, IllegalArgumentException {
        needWeek(w);
        switch (what) {
            case 0: return present.costs[w];
            case 1: return present.schools[w] ? 1 : 0;
            case 2: return present.holders[w];
            case 3: return present.bidsFor(w);
            case 4: return present.greatestExtraFor(w);
            default: throw new IllegalArgumentException("what is not 0 to 4");
        }
    }

    public int bidOf(int o, int w) throws IndexOutOfBoundsException {
        needOwner(o);
        needWeek(w);
        return present.extraOf(o, w);
    }

    public int offerOf(int k, int what) throws IndexOutOfBoundsException, IllegalArgumentException {
        needOffer(k);
        switch (what) {
            case 0: return present.offerers[k];
            case 1: return present.offered[k];
            case 2: return present.wanted[k];
            case 3: return present.canSwap(present.offerers[k], present.offered[k], present.wanted[k]) ? 0 : 1;
            default: throw new IllegalArgumentException("what is not 0 to 3");
        }
    }

    // ---- actions

    public int owner(int share) throws IllegalArgumentException, IllegalStateException {
        needRange(share, 1, MOST_SHARE);
        if (present.owners >= MOST_OWNERS) {
            throw new IllegalStateException("there are 6 owners");
        }
        history.remember(present);
        return present.addOwner(share);
    }

    public int cost(int w, int points) throws IndexOutOfBoundsException, IllegalArgumentException {
        needWeek(w);
        needRange(points, 1, MOST_COST);
        history.remember(present);
        return present.changeCost(w, points);
    }

    public int school(int w, boolean on) throws IndexOutOfBoundsException {
        needWeek(w);
        history.remember(present);
        return present.markSchool(w, on);
    }

    public int take(int o, int w) throws IndexOutOfBoundsException {
        needOwner(o);
        needWeek(w);
        history.remember(present);
        return present.takeWeek(o, w);
    }

    public int release(int o, int w) throws IndexOutOfBoundsException, IllegalStateException {
        needOwner(o);
        needWeek(w);
        if (!present.holds(o, w)) {
            throw new IllegalStateException("the owner does not hold the week");
        }
        history.remember(present);
        return present.giveBack(o, w);
    }

    public int bid(int o, int w, int extra)
            throws IndexOutOfBoundsException, IllegalArgumentException, IllegalStateException {
        needOwner(o);
        needWeek(w);
        needRange(extra, 0, MOST_EXTRA);
        if (!present.isOpenForBids(w)) {
            throw new IllegalStateException("the week is no school week, or held");
        }
        history.remember(present);
        return present.placeBid(o, w, extra);
    }

    public int settle() {
        history.remember(present);
        return present.settleBids();
    }

    public int offer(int o, int w, int x) throws IndexOutOfBoundsException, IllegalStateException {
        needOwner(o);
        needWeek(w);
        needWeek(x);
        if (!present.canOffer(o, w, x)) {
            throw new IllegalStateException("the weeks cannot be offered for each other, or there are 8 offers");
        }
        history.remember(present);
        return present.placeOffer(o, w, x);
    }

    public int accept(int k) throws IndexOutOfBoundsException {
        needOffer(k);
        history.remember(present);
        return present.acceptOffer(k);
    }

    public int upkeep(int coins) throws IllegalArgumentException, IllegalStateException {
        needRange(coins, 1, MOST_COINS);
        if (present.owners == 0) {
            throw new IllegalStateException("there are no owners");
        }
        history.remember(present);
        return present.payUpkeep(coins);
    }

    public int year() {
        history.remember(present);
        return present.beginYear();
    }

    public int set(int what, int v) throws IllegalArgumentException {
        if (what < 0 || what >= SETTINGS) {
            throw new IllegalArgumentException("there is no such setting");
        }
        needRange(v, SETTING_LEAST[what], SETTING_MOST[what]);
        history.remember(present);
        int previous = present.settings[what];
        present.settings[what] = v;
        return previous;
    }

    public int undo() throws IllegalStateException {
        if (history.isEmpty()) {
            throw new IllegalStateException("no state is remembered");
        }
        return history.takeBack(present);
    }

    // ---- what would be

    public int why(int o, int w) throws IndexOutOfBoundsException {
        needOwner(o);
        needWeek(w);
        return present.reasonAgainst(o, w);
    }

    public int could(int way) throws IllegalArgumentException {
        switch (way) {
            case 0: return matching.countByMoving(present);
            case 1: return matching.countBySets(present);
            default: throw new IllegalArgumentException("way is neither 0 nor 1");
        }
    }

    public int winner(int w) throws IndexOutOfBoundsException {
        needWeek(w);
        settleCopyBefore(w);
        return copy.bestBidder(w);
    }

    public int leastBid(int o, int w) throws IndexOutOfBoundsException {
        needOwner(o);
        needWeek(w);
        settleCopyBefore(w);
        for (int extra = 0; extra <= MOST_EXTRA; extra++) {
            if (copy.placeBid(o, w, extra) != REFUSED && copy.bestBidder(w) == o) {
                return extra;
            }
        }
        return NONE;
    }

    public int ifUpkeep(int o, int coins) throws IndexOutOfBoundsException, IllegalArgumentException {
        needOwner(o);
        needRange(coins, 1, MOST_COINS);
        return present.partOf(o, coins);
    }

    // ---- scripts, simulations

    public int runScript(int n, long script) throws IllegalArgumentException {
        needRange(n, 1, MOST_COMMANDS);
        long scale = 1;
        for (int i = 0; i < n; i++) {
            scale *= GROUP;
        }
        if (script < 0 || script >= scale) {
            throw new IllegalArgumentException("the script is negative or too long");
        }
        copy.copyFrom(present);
        for (int i = 0; i < n; i++) {
            scale /= GROUP;
            if (scale < 1 || !Script.succeeds(copy, (int) (script / scale % GROUP))) {
                return i;
            }
        }
        return NONE;
    }

    public int simulate(long seed, int m) throws IllegalArgumentException {
        needRange(m, 1, MOST_TURNS);
        copy.copyFrom(present);
        long x = seed;
        for (int turn = 0; turn < m; turn++) {
            x = x * 6364136223846793005L + 1442695040888963407L;
            Simulation.turn(copy, (int) (x >>> 33));
        }
        return 10000 * copy.weeksHeldBy(NONE) + copy.pointsOfAll();
    }

    // ---- save slots

    public int save(int slot) throws IndexOutOfBoundsException {
        needSlot(slot);
        slots[slot].copyFrom(present);
        saved[slot] = true;
        return present.yearNumber;
    }

    public int restore(int slot) throws IndexOutOfBoundsException, IllegalStateException {
        needSlot(slot);
        if (!saved[slot]) {
            throw new IllegalStateException("nothing has been saved in the slot");
        }
        present.copyFrom(slots[slot]);
        history.forget();
        return present.yearNumber;
    }

    private void needOwner(int o) {
        if (!present.hasOwner(o)) {
            throw new IndexOutOfBoundsException("there is no such owner");
        }
    }

    private void needWeek(int w) {
        if (!present.hasWeek(w)) {
            throw new IndexOutOfBoundsException("there is no such week");
        }
    }

    private void needOffer(int k) {
        if (!present.hasOffer(k)) {
            throw new IndexOutOfBoundsException("there is no such offer");
        }
    }

    private void needSlot(int slot) {
        if (slot < 0 || slot >= SLOTS) {
            throw new IndexOutOfBoundsException("there is no such save slot");
        }
    }

    private void needRange(int value, int least, int most) {
        if (value < least || value > most) {
            throw new IllegalArgumentException("an argument is out of its range");
        }
    }

    /** Weeks that are settled earlier change what an owner has for this one. */
    private void settleCopyBefore(int w) {
        copy.copyFrom(present);
        for (int before = 0; before < w; before++) {
            copy.settleWeek(before);
        }
    }

    /**
     * The state: everything but the text, the save slots and what is remembered.
     * Its commands test their arguments themselves, as texts, scripts and
     * simulations hand them anything.
     */
    private static final class House {
        private final int[] settings = new int[SETTINGS];
        private final int[] totals = new int[TOTALS];
        private int yearNumber;

        private int owners;
        private final int[] shares = new int[MOST_OWNERS];
        private final int[] points = new int[MOST_OWNERS];
        private final int[] won = new int[MOST_OWNERS];
        private final int[] paid = new int[MOST_OWNERS];

        private final int[] costs = new int[WEEKS];
        private final boolean[] schools = new boolean[WEEKS];
        private final int[] holders = new int[WEEKS];
        private final int[] bids = new int[MOST_OWNERS * WEEKS];

        private int offers;
        private final int[] offerers = new int[MOST_OFFERS];
        private final int[] offered = new int[MOST_OFFERS];
        private final int[] wanted = new int[MOST_OFFERS];

        House() {
            clear();
        }

        void clear() {
            System.arraycopy(SETTING_AT_FIRST, 0, settings, 0, SETTINGS);
            Arrays.fill(totals, 0);
            yearNumber = 0;
            owners = 0;
            Arrays.fill(shares, 0);
            Arrays.fill(points, 0);
            Arrays.fill(won, 0);
            Arrays.fill(paid, 0);
            Arrays.fill(costs, FIRST_COST);
            for (int w = 0; w < WEEKS; w++) {
                schools[w] = false;
            }
            Arrays.fill(holders, NONE);
            Arrays.fill(bids, NONE);
            offers = 0;
        }

        void copyFrom(House other) {
            System.arraycopy(other.settings, 0, settings, 0, SETTINGS);
            System.arraycopy(other.totals, 0, totals, 0, TOTALS);
            yearNumber = other.yearNumber;
            owners = other.owners;
            System.arraycopy(other.shares, 0, shares, 0, MOST_OWNERS);
            System.arraycopy(other.points, 0, points, 0, MOST_OWNERS);
            System.arraycopy(other.won, 0, won, 0, MOST_OWNERS);
            System.arraycopy(other.paid, 0, paid, 0, MOST_OWNERS);
            System.arraycopy(other.costs, 0, costs, 0, WEEKS);
            System.arraycopy(other.schools, 0, schools, 0, WEEKS);
            System.arraycopy(other.holders, 0, holders, 0, WEEKS);
            System.arraycopy(other.bids, 0, bids, 0, MOST_OWNERS * WEEKS);
            offers = other.offers;
            System.arraycopy(other.offerers, 0, offerers, 0, MOST_OFFERS);
            System.arraycopy(other.offered, 0, offered, 0, MOST_OFFERS);
            System.arraycopy(other.wanted, 0, wanted, 0, MOST_OFFERS);
        }

        boolean hasOwner(int o) {
            return o >= 0 && o < owners && o < MOST_OWNERS;
        }

        boolean hasWeek(int w) {
            return w >= 0 && w < WEEKS;
        }

        boolean hasOffer(int k) {
            return k >= 0 && k < offers && k < MOST_OFFERS;
        }

        boolean holds(int o, int w) {
            return hasOwner(o) && hasWeek(w) && holders[w] == o;
        }

        boolean hasAtLeast(int o, int least) {
            return hasOwner(o) && points[o] >= least;
        }

        boolean isOpenForBids(int w) {
            return hasWeek(w) && schools[w] && holders[w] == NONE;
        }

        /** Counts the free weeks for the holder NONE. */
        int weeksHeldBy(int o) {
            int held = 0;
            for (int w = 0; w < WEEKS; w++) {
                if (holders[w] == o) {
                    held++;
                }
            }
            return held;
        }

        int lowestWeekHeldBy(int o) {
            for (int w = 0; w < WEEKS; w++) {
                if (holders[w] == o) {
                    return w;
                }
            }
            return NONE;
        }

        int pointsOfAll() {
            int sum = 0;
            for (int o = 0; o < MOST_OWNERS; o++) {
                sum += points[o];
            }
            return sum;
        }

        int extraOf(int o, int w) {
            boolean hasPlace = o >= 0 && o < MOST_OWNERS && w >= 0 && w < WEEKS;
            return hasPlace ? bids[o * WEEKS + w] : NONE;
        }

        int bidsBy(int o) {
            int count = 0;
            for (int w = 0; w < WEEKS; w++) {
                if (extraOf(o, w) != NONE) {
                    count++;
                }
            }
            return count;
        }

        int bidsFor(int w) {
            int count = 0;
            for (int o = 0; o < MOST_OWNERS; o++) {
                if (extraOf(o, w) != NONE) {
                    count++;
                }
            }
            return count;
        }

        int bidsOfAll() {
            int count = 0;
            for (int o = 0; o < MOST_OWNERS; o++) {
                count += bidsBy(o);
            }
            return count;
        }

        int greatestExtraFor(int w) {
            int greatest = NONE;
            for (int o = 0; o < MOST_OWNERS; o++) {
                greatest = Math.max(greatest, extraOf(o, w));
            }
            return greatest;
        }

        int addOwner(int share) {
            if (share < 1 || share > MOST_SHARE || owners >= MOST_OWNERS) {
                return REFUSED;
            }
            int o = owners;
            owners++;
            shares[o] = share;
            givePoints(o);
            return o;
        }

        private void givePoints(int o) {
            int gift = settings[POINTS_FOR_SHARE] * shares[o];
            points[o] += gift;
            totals[GIVEN] += gift;
        }

        private void spendPoints(int o, int price) {
            points[o] -= price;
            totals[SPENT] += price;
        }

        int changeCost(int w, int price) {
            if (!hasWeek(w) || price < 1 || price > MOST_COST) {
                return REFUSED;
            }
            int previous = costs[w];
            costs[w] = price;
            return previous;
        }

        int markSchool(int w, boolean on) {
            if (!hasWeek(w)) {
                return REFUSED;
            }
            schools[w] = on;
            int count = 0;
            for (int v = 0; v < WEEKS; v++) {
                if (schools[v]) {
                    count++;
                }
            }
            return count;
        }

        int reasonAgainst(int o, int w) {
            if (!hasOwner(o) || !hasWeek(w)) {
                return REFUSED;
            }
            if (schools[w]) {
                return BECAUSE_SCHOOL;
            }
            if (holders[w] != NONE) {
                return BECAUSE_HELD;
            }
            if (weeksHeldBy(o) >= settings[MOST_HELD]) {
                return BECAUSE_MOST_HELD;
            }
            return points[o] < costs[w] ? BECAUSE_POINTS : TAKEN;
        }

        int takeWeek(int o, int w) {
            if (!hasOwner(o) || !hasWeek(w)) {
                return REFUSED;
            }
            int reason = reasonAgainst(o, w);
            if (reason == TAKEN) {
                holders[w] = o;
                spendPoints(o, costs[w]);
            } else {
                totals[REFUSED_TAKES]++;
            }
            return reason;
        }

        int giveBack(int o, int w) {
            if (!holds(o, w)) {
                return REFUSED;
            }
            int half = costs[w] / 2;
            holders[w] = NONE;
            points[o] += half;
            totals[GOT_BACK] += half;
            return half;
        }

        int placeBid(int o, int w, int extra) {
            if (!hasOwner(o) || !isOpenForBids(w) || extra < 0 || extra > MOST_EXTRA) {
                return REFUSED;
            }
            bids[o * WEEKS + w] = extra;
            return bidsFor(w);
        }

        int settleBids() {
            int wins = 0;
            for (int w = 0; w < WEEKS; w++) {
                if (settleWeek(w)) {
                    wins++;
                }
            }
            Arrays.fill(bids, NONE);
            return wins;
        }

        boolean settleWeek(int w) {
            int o = bestBidder(w);
            if (!hasOwner(o) || !hasWeek(w)) {
                return false;
            }
            spendPoints(o, costs[w] + extraOf(o, w));
            holders[w] = o;
            won[o]++;
            return true;
        }

        int bestBidder(int w) {
            int best = NONE;
            if (!isOpenForBids(w)) {
                return best;
            }
            for (int o = 0; o < MOST_OWNERS; o++) {
                if (canWin(o, w) && (best == NONE || isAhead(o, best, w))) {
                    best = o;
                }
            }
            return best;
        }

        private boolean canWin(int o, int w) {
            int extra = extraOf(o, w);
            return extra != NONE && weeksHeldBy(o) < settings[MOST_HELD] && points[o] >= costs[w] + extra;
        }

        private boolean isAhead(int o, int other, int w) {
            if (!hasOwner(o) || !hasOwner(other)) {
                return false;
            }
            int extra = extraOf(o, w);
            int otherExtra = extraOf(other, w);
            if (extra != otherExtra) {
                return extra > otherExtra;
            }
            if (won[o] != won[other]) {
                return won[o] < won[other];
            }
            if (shares[o] != shares[other]) {
                return shares[o] > shares[other];
            }
            return o < other;
        }

        /** The same holds for a new offer and for one that is accepted. */
        boolean canSwap(int o, int w, int x) {
            return holds(o, w) && hasWeek(x) && holders[x] != NONE && holders[x] != o;
        }

        boolean canOffer(int o, int w, int x) {
            return canSwap(o, w, x) && offers < MOST_OFFERS;
        }

        int placeOffer(int o, int w, int x) {
            if (!canOffer(o, w, x)) {
                return REFUSED;
            }
            int k = offers;
            offers++;
            offerers[k] = o;
            offered[k] = w;
            wanted[k] = x;
            return k;
        }

        int acceptOffer(int k) {
            if (!hasOffer(k)) {
                return REFUSED;
            }
            int o = offerers[k];
            int w = offered[k];
            int x = wanted[k];
            dropOffer(k);
            if (!canSwap(o, w, x)) {
                totals[VOID]++;
                return 0;
            }
            holders[w] = holders[x];
            holders[x] = o;
            totals[SWAPPED]++;
            return 1;
        }

        private void dropOffer(int k) {
            offers--;
            for (int i = k; i < offers && i + 1 < MOST_OFFERS; i++) {
                offerers[i] = offerers[i + 1];
                offered[i] = offered[i + 1];
                wanted[i] = wanted[i + 1];
            }
        }

        int payUpkeep(int coins) {
            if (owners == 0 || coins < 1 || coins > MOST_COINS) {
                return REFUSED;
            }
            int most = 0;
            for (int o = 0; o < MOST_OWNERS; o++) {
                int part = partOf(o, coins);
                paid[o] += part;
                most = Math.max(most, part);
            }
            totals[PAID] += coins;
            return most;
        }

        int partOf(int o, int coins) {
            int all = sharesOfAll();
            if (!hasOwner(o) || all <= 0) {
                return 0;
            }
            int rest = coins * shares[o] % all;
            int left = coins;
            int before = 0;
            for (int other = 0; other < MOST_OWNERS; other++) {
                left -= coins * shares[other] / all;
                int otherRest = coins * shares[other] % all;
                if (otherRest > rest || otherRest == rest && other < o) {
                    before++;
                }
            }
            return coins * shares[o] / all + (before < left ? 1 : 0);
        }

        private int sharesOfAll() {
            int sum = 0;
            for (int o = 0; o < MOST_OWNERS; o++) {
                sum += shares[o];
            }
            return sum;
        }

        int beginYear() {
            yearNumber++;
            Arrays.fill(holders, NONE);
            Arrays.fill(bids, NONE);
            offers = 0;
            int lapse = 0;
            for (int o = 0; o < MOST_OWNERS; o++) {
                int above = Math.max(0, points[o] - settings[MOST_CARRIED]);
                points[o] -= above;
                lapse += above;
                givePoints(o);
            }
            totals[LAPSED] += lapse;
            return lapse;
        }
    }

    /** The states before the last actions, in a ring of rows that are used again. */
    private static final class History {
        private final House[] rows = new House[MOST_REMEMBERED];
        private int oldest;
        private int count;

        History() {
            for (int i = 0; i < MOST_REMEMBERED; i++) {
                rows[i] = new House();
            }
        }

        boolean isEmpty() {
            return count == 0;
        }

        void forget() {
            count = 0;
        }

        void remember(House house) {
            if (count >= MOST_REMEMBERED) {
                oldest = (oldest + 1) % MOST_REMEMBERED;
                count--;
            }
            rows[(oldest + count) % MOST_REMEMBERED].copyFrom(house);
            count++;
        }

        int takeBack(House house) {
            if (count > 0) {
                count--;
                house.copyFrom(rows[(oldest + count) % MOST_REMEMBERED]);
            }
            return count;
        }
    }

    /** The text buffer, and the reading of it as a house. */
    private static final class Text {
        private static final String COMMANDS = "okstberfauy";

        private final char[] signs = new char[MOST_TEXT];
        private int length;

        private int at;
        private boolean wrong;
        private final int[] values = new int[3];
        private int valueCount;

        boolean isFull() {
            return length >= MOST_TEXT;
        }

        int add(char sign) {
            if (!isFull()) {
                signs[length] = sign;
                length++;
            }
            return length;
        }

        int empty() {
            int previous = length;
            length = 0;
            return previous;
        }

        int findError() {
            startReading();
            for (int i = 0; i < MOST_TEXT && hasMore(); i++) {
                readCommand();
            }
            return wrong ? at : NONE;
        }

        /** Does the commands; answers how many of them are left out. */
        int build(House house) {
            int leftOut = 0;
            startReading();
            for (int i = 0; i < MOST_TEXT && hasMore(); i++) {
                int letter = readCommand();
                if (!wrong && !isDone(house, letter)) {
                    leftOut++;
                }
            }
            return leftOut;
        }

        private void startReading() {
            at = 0;
            wrong = nextSign() != 'C';
            if (!wrong) {
                at++;
            }
        }

        private boolean hasMore() {
            return !wrong && at < length;
        }

        private int nextSign() {
            return at < length && at < MOST_TEXT ? signs[at] : NONE;
        }

        private int readCommand() {
            int letter = nextSign();
            valueCount = 0;
            wrong = letter == NONE || COMMANDS.indexOf((char) letter) < 0;
            if (!wrong) {
                at++;
                readValues(letter);
            }
            return letter;
        }

        private void readValues(int letter) {
            switch (letter) {
                case 'o':
                    readNumber(1, 1, MOST_SHARE);
                    break;
                case 'k':
                    readWeek();
                    readNumber(1, 1, MOST_COST);
                    break;
                case 's':
                    readWeek();
                    readPlusOrMinus();
                    break;
                case 't':
                case 'r':
                    readOwner();
                    readWeek();
                    break;
                case 'b':
                    readOwner();
                    readWeek();
                    readNumber(2, 0, MOST_EXTRA);
                    break;
                case 'f':
                    readOwner();
                    readWeek();
                    readWeek();
                    break;
                case 'a':
                    readNumber(1, 0, MOST_OFFERS - 1);
                    break;
                case 'u':
                    readNumber(3, 1, MOST_COINS);
                    break;
                default:
                    break;
            }
        }

        private void readOwner() {
            readNumber(1, 0, MOST_OWNERS - 1);
        }

        private void readWeek() {
            readNumber(2, 0, WEEKS - 1);
        }

        private void readPlusOrMinus() {
            if (wrong) {
                return;
            }
            int sign = nextSign();
            wrong = sign != '+' && sign != '-';
            if (!wrong) {
                at++;
                keepValue(sign == '+' ? 1 : 0);
            }
        }

        /** A digit is allowed as long as some number from least to most goes on from it. */
        private void readNumber(int digits, int least, int most) {
            int open = 1;
            for (int i = 0; i < digits; i++) {
                open *= 10;
            }
            int value = 0;
            for (int i = 0; i < digits && !wrong; i++) {
                int digit = nextSign() - '0';
                open /= 10;
                value = value * 10 + digit;
                wrong = digit < 0 || digit > 9 || value * open > most || value * open + open - 1 < least;
                if (!wrong) {
                    at++;
                }
            }
            keepValue(value);
        }

        private void keepValue(int value) {
            if (valueCount < values.length) {
                values[valueCount] = value;
                valueCount++;
            }
        }

        private boolean isDone(House house, int letter) {
            int a = values[0];
            int b = values[1];
            int c = values[2];
            switch (letter) {
                case 'o': return house.addOwner(a) != REFUSED;
                case 'k': return house.changeCost(a, b) != REFUSED;
                case 's': return house.markSchool(a, b == 1) != REFUSED;
                // A refused take would be counted, and the text's are counted nowhere.
                case 't': return house.reasonAgainst(a, b) == TAKEN && house.takeWeek(a, b) == TAKEN;
                case 'b': return house.placeBid(a, b, c) != REFUSED;
                case 'e': return house.settleBids() != REFUSED;
                case 'r': return house.giveBack(a, b) != REFUSED;
                case 'f': return house.placeOffer(a, b, c) != REFUSED;
                case 'a': return house.acceptOffer(a) != REFUSED;
                case 'u': return house.payUpkeep(a) != REFUSED;
                default: return house.beginYear() != REFUSED;
            }
        }
    }

    /** How many owners could take a week at the same time. */
    private static final class Matching {
        private static final int SETS = 1 << MOST_OWNERS;

        private final int[] takers = new int[WEEKS];
        private final int[] tried = new int[WEEKS];

        int countByMoving(House house) {
            Arrays.fill(takers, NONE);
            int count = 0;
            for (int o = 0; o < MOST_OWNERS; o++) {
                Arrays.fill(tried, 0);
                if (findWeek(house, o, takers, tried, 0)) {
                    count++;
                }
            }
            return count;
        }

        /** No owner is moved twice on one way, so it is never longer than the owners are many. */
        private static boolean findWeek(House house, int o, int[] takers, int[] tried, int depth) {
            if (depth > MOST_OWNERS) {
                return false;
            }
            for (int w = 0; w < WEEKS && w < takers.length && w < tried.length; w++) {
                if (tried[w] == 0 && house.reasonAgainst(o, w) == TAKEN) {
                    tried[w] = 1;
                    if (takers[w] == NONE || findWeek(house, takers[w], takers, tried, depth + 1)) {
                        takers[w] = o;
                        return true;
                    }
                }
            }
            return false;
        }

        int countBySets(House house) {
            long reached = 1L;
            for (int w = 0; w < WEEKS; w++) {
                reached |= growSets(house, w, reached);
            }
            int most = 0;
            for (int set = 0; set < SETS; set++) {
                if ((reached >>> set & 1L) != 0) {
                    most = Math.max(most, Integer.bitCount(set));
                }
            }
            return most;
        }

        /** The sets are the bits of one long: with six owners there are 64 of them. */
        private static long growSets(House house, int w, long reached) {
            long grown = 0L;
            for (int o = 0; o < MOST_OWNERS; o++) {
                if (house.reasonAgainst(o, w) == TAKEN) {
                    for (int set = 0; set < SETS; set++) {
                        if ((reached >>> set & 1L) != 0) {
                            grown |= 1L << (set | 1 << o);
                        }
                    }
                }
            }
            return grown;
        }
    }

    /** The commands of scripts. */
    private static final class Script {
        private Script() {
        }

        static boolean succeeds(House house, int command) {
            int o = command / 10000 % 10;
            int w = command / 100 % 100;
            int x = command % 100;
            switch (command / 100000) {
                case 1: return x == 0 && house.takeWeek(o, w) == TAKEN;
                case 2: return house.placeBid(o, w, x) != REFUSED;
                case 3: return command / 10 % 10000 == 0 && house.settleBids() >= command % 10;
                case 4: return x == 0 && house.giveBack(o, w) != REFUSED;
                case 5: return house.placeOffer(o, w, x) != REFUSED;
                case 6: return command % 10000 == 0 && house.acceptOffer(o) == 1;
                case 7: return command % 100000 == 0 && house.beginYear() != REFUSED;
                case 8: return w == 0 && house.hasAtLeast(o, x);
                case 9: return x == 0 && house.holds(o, w);
                default: return false;
            }
        }
    }

    /** The turns of simulations; what the face would throw at is refused by the house. */
    private static final class Simulation {
        private Simulation() {
        }

        static void turn(House house, int r) {
            int q = r / 16;
            switch (r % 16) {
                case 0:
                    house.addOwner(1 + q % 9);
                    break;
                case 1:
                    house.changeCost(q % 20, 1 + q / 32 % 9);
                    break;
                case 2:
                    house.markSchool(q % 20, q / 32 % 2 == 1);
                    break;
                case 3:
                case 4:
                case 5:
                case 6:
                    house.takeWeek(q % 6, q / 8 % 20);
                    break;
                case 7:
                case 8:
                    house.placeBid(q % 6, q / 8 % 20, q / 256 % 21);
                    break;
                case 9:
                    house.settleBids();
                    break;
                case 10:
                    house.giveBack(q % 6, q / 8 % 20);
                    break;
                case 11:
                case 12:
                    house.placeOffer(q % 6, q / 8 % 20, q / 256 % 20);
                    break;
                case 13:
                    house.acceptOffer(q % 8);
                    break;
                case 14:
                    house.payUpkeep(1 + q % 999);
                    break;
                default:
                    house.beginYear();
                    break;
            }
        }
    }
}

import java.util.function.Consumer;
import java.util.function.ToIntFunction;

/** The boundary sentences of promises 11 to 23: the actions. */
public final class ActionEdgesTest {
    private static final Edges EDGES = new Edges();

    public static void main(String[] args) {
        owner();
        cost();
        school();
        schoolLeavesBidsAndHolders();
        take();
        takeAtTheEdges();
        release();
        releaseHalves();
        bid();
        bidAtTheEdges();
        settle();
        settleAtTheEdges();
        settleTies();
        settleMixes();
        offer();
        accept();
        acceptVoid();
        acceptMovesUp();
        upkeep();
        upkeepLeft();
        year();
        yearLapses();
        set();
        settingsInUse();
        undo();
        undoAtFourteen();
        everyActionIsRemembered();
        EDGES.end();
    }

    private static void owners(int promise, Consumer<CottageWeeks> way, Edges.WithNumber call) {
        EDGES.range(promise, "an owner that exists", Check.BOUNDS, 0, 1, way, call);
        EDGES.refused(promise, "owner 0 without owners", Check.BOUNDS, x -> { }, x -> call.call(x, 0));
    }

    private static void weeks(int promise, Consumer<CottageWeeks> way, Edges.WithNumber call) {
        EDGES.range(promise, "a week that exists", Check.BOUNDS, 0, 19, way, call);
    }

    private static void owner() {
        EDGES.range(11, "share: 1 to 9", Check.ARGUMENT, 1, 9, Edges::busy, CottageWeeks::owner);
        Consumer<CottageWeeks> six = x -> Edges.come(x, 1, 2, 3, 4, 5, 6);
        EDGES.refused(11, "there are 6", Check.STATE, six, x -> x.owner(1));
        EDGES.refused(11, "there are 6, the share is told first, too small", Check.ARGUMENT, six, x -> x.owner(0));
        EDGES.refused(11, "there are 6, the share is told first, too great", Check.ARGUMENT, six, x -> x.owner(10));
        CottageWeeks x = new CottageWeeks();
        for (int o = 0; o < 6; o++) {
            EDGES.due(11, "the owner's number", o, x.owner(o + 1));
            EDGES.due(11, "owners", o + 1, x.about(0));
            EDGES.due(11, "the share", o + 1, x.ownerOf(o, 0));
            EDGES.due(11, "setting 0 for each share", 4 * (o + 1), x.ownerOf(o, 1));
            EDGES.due(11, "no weeks, wins, coins, bids", 0,
                    x.ownerOf(o, 2) + x.ownerOf(o, 3) + x.ownerOf(o, 4) + x.ownerOf(o, 6));
        }
        EDGES.due(11, "points given", 84, x.about(3));
        CottageWeeks y = new CottageWeeks();
        y.set(0, 1);
        y.owner(1);
        y.set(0, 20);
        y.owner(9);
        EDGES.due(11, "the fewest points", 1, y.ownerOf(0, 1));
        EDGES.due(11, "the most points", 180, y.ownerOf(1, 1));
    }

    private static void cost() {
        weeks(12, Edges::busy, (x, w) -> x.cost(w, 1));
        EDGES.range(12, "points: 1 to 9", Check.ARGUMENT, 1, 9, Edges::busy, (x, points) -> x.cost(19, points));
        EDGES.refused(12, "the week is told before the points, too few", Check.BOUNDS, Edges::busy,
                x -> x.cost(20, 0));
        EDGES.refused(12, "the week is told before the points, too many", Check.BOUNDS, Edges::busy,
                x -> x.cost(-1, 10));
        CottageWeeks x = Edges.house(2);
        EDGES.due(12, "the previous cost, at first 3", 3, x.cost(19, 9));
        EDGES.due(12, "the previous cost, the most", 9, x.cost(19, 1));
        EDGES.due(12, "the previous cost, the least", 1, x.cost(19, 1));
        EDGES.due(12, "another week's cost stays", 3, x.weekOf(18, 0));
        x.take(0, 19);
        x.cost(19, 9);
        EDGES.due(12, "who holds it pays nothing", 7, x.ownerOf(0, 1));
        x.cost(19, 1);
        EDGES.due(12, "who holds it gets nothing", 7, x.ownerOf(0, 1));
        EDGES.due(12, "it is held", 0, x.weekOf(19, 2));
        EDGES.due(12, "nothing more is spent", 1, x.about(4));
        EDGES.due(12, "nothing is got back", 0, x.about(5));
    }

    private static void school() {
        weeks(13, Edges::busy, (x, w) -> x.school(w, true));
        weeks(13, Edges::busy, (x, w) -> x.school(w, false));
        CottageWeeks x = new CottageWeeks();
        EDGES.due(13, "none is one: off", 0, x.school(0, false));
        for (int w = 0; w < 20; w++) {
            EDGES.due(13, "how many there are then", w + 1, x.school(w, true));
            EDGES.due(13, "the same again", w + 1, x.school(w, true));
        }
        for (int w = 0; w < 20; w++) {
            EDGES.due(13, "how many are left", 19 - w, x.school(w, false));
            EDGES.due(13, "the same again", 19 - w, x.school(w, false));
        }
    }

    private static void schoolLeavesBidsAndHolders() {
        CottageWeeks x = Edges.house(2, 2);
        x.school(19, true);
        x.bid(1, 19, 4);
        x.school(19, false);
        EDGES.due(13, "bids for it stay", 4, x.bidOf(1, 19));
        EDGES.due(13, "it can be taken", 0, x.take(0, 19));
        EDGES.due(13, "bids for it stay, it is held", 4, x.bidOf(1, 19));
        x.school(19, true);
        EDGES.due(13, "who holds it goes on holding it", 0, x.weekOf(19, 2));
        EDGES.due(13, "who holds it has its points", 5, x.ownerOf(0, 1));
        EDGES.due(13, "it was not won", 0, x.ownerOf(0, 3));
        x.release(0, 19);
        EDGES.due(13, "the bid stands again", 1, x.settle());
        EDGES.due(13, "the bid stands again", 1, x.weekOf(19, 2));
    }

    private static void take() {
        owners(14, Edges::busy, (x, o) -> x.take(o, 0));
        weeks(14, Edges::busy, (x, w) -> x.take(1, w));
        refusedTake(1, "a school week", x -> { }, x -> x.take(0, 10));
        refusedTake(2, "held by another", x -> { }, x -> x.take(0, 2));
        refusedTake(2, "held by itself", x -> { }, x -> x.take(0, 1));
        refusedTake(3, "setting 2 weeks", x -> x.set(2, 1), x -> x.take(0, 0));
        refusedTake(4, "fewer points", x -> {
            x.set(0, 1);
            x.owner(1);
        }, x -> x.take(2, 0));
    }

    /** A refused take is counted, and nothing else becomes different. */
    private static void refusedTake(int reason, String sentence, Consumer<CottageWeeks> way,
            ToIntFunction<CottageWeeks> take) {
        Consumer<CottageWeeks> before = x -> {
            Edges.busy(x);
            way.accept(x);
        };
        String shown = Check.shown(Edges.made(before));
        CottageWeeks x = Edges.made(before);
        int refused = x.about(12);
        EDGES.due(14, sentence, reason, take.applyAsInt(x));
        EDGES.due(14, sentence + ", refused once more", refused + 1, x.about(12));
        EDGES.due(14, sentence + ", nothing else is different", withoutRefused(shown), withoutRefused(Check.shown(x)));
        CottageWeeks y = Edges.made(before);
        take.applyAsInt(y);
        EDGES.due(14, sentence + ", it is an action", 13, y.undo());
        EDGES.due(14, sentence + ", undone", shown, Check.shown(y));
        EDGES.due(14, sentence + ", the count is undone", refused, y.about(12));
    }

    /** Number 12 is the last but one of the first line. */
    private static String withoutRefused(String shown) {
        return shown.replaceFirst("\\d+ (\\d+) \\n", "$1\n");
    }

    private static void takeAtTheEdges() {
        CottageWeeks x = Edges.house(1);
        x.cost(0, 5);
        EDGES.due(14, "4 points, it costs 5", 4, x.take(0, 0));
        x.cost(0, 4);
        EDGES.due(14, "4 points, it costs 4", 0, x.take(0, 0));
        EDGES.due(14, "it spends what it costs", 0, x.ownerOf(0, 1));
        EDGES.due(14, "spent", 4, x.about(4));
        x.cost(1, 1);
        EDGES.due(14, "0 points, it costs 1", 4, x.take(0, 1));
        EDGES.due(14, "refused twice", 2, x.about(12));
        for (int most : new int[] {1, 2, 3, 10}) {
            CottageWeeks y = Edges.house(9);
            y.set(2, most);
            for (int w = 0; w < most; w++) {
                EDGES.due(14, "fewer than " + most + " weeks are held", 0, y.take(0, w));
            }
            EDGES.due(14, "as many as " + most + " weeks are held", 3, y.take(0, 19));
            EDGES.due(14, "the weeks that are held", most, y.ownerOf(0, 2));
        }
        CottageWeeks z = Edges.house(9);
        z.take(0, 0);
        z.take(0, 1);
        z.set(2, 1);
        EDGES.due(14, "more than setting 2 weeks are held", 3, z.take(0, 19));
        z.release(0, 0);
        EDGES.due(14, "just setting 2 weeks are held", 3, z.take(0, 19));
        z.release(0, 1);
        EDGES.due(14, "none is held", 0, z.take(0, 19));
    }

    private static void release() {
        owners(15, x -> {
            Edges.come(x, 9, 9);
            x.take(0, 0);
            x.take(1, 1);
        }, (x, o) -> x.release(o, o));
        Consumer<CottageWeeks> ends = x -> {
            Edges.busy(x);
            x.take(1, 0);
            x.take(1, 19);
        };
        weeks(15, ends, (x, w) -> x.release(1, w));
        EDGES.refused(15, "nobody holds it", Check.STATE, Edges::busy, x -> x.release(0, 5));
        EDGES.refused(15, "another one holds it", Check.STATE, Edges::busy, x -> x.release(0, 2));
        EDGES.refused(15, "the owner is told before the state", Check.BOUNDS, Edges::busy, x -> x.release(2, 5));
        EDGES.refused(15, "it is given back twice", Check.STATE, x -> {
            Edges.busy(x);
            x.release(0, 1);
        }, x -> x.release(0, 1));
        EDGES.refused(15, "all weeks are free in a new year", Check.STATE, x -> {
            Edges.busy(x);
            x.year();
        }, x -> x.release(0, 1));
    }

    private static void releaseHalves() {
        for (int cost = 1; cost <= 9; cost++) {
            CottageWeeks x = Edges.house(9);
            x.take(0, 19);
            x.cost(19, cost);
            EDGES.due(15, "half of what it costs then, " + cost, (cost - cost % 2) / 2, x.release(0, 19));
            EDGES.due(15, "as points", 33 + (cost - cost % 2) / 2, x.ownerOf(0, 1));
            EDGES.due(15, "got back", (cost - cost % 2) / 2, x.about(5));
            EDGES.due(15, "what was spent stays", 3, x.about(4));
            EDGES.due(15, "it is free", -1, x.weekOf(19, 2));
        }
        CottageWeeks x = Edges.house(9);
        x.school(19, true);
        x.bid(0, 19, 9);
        x.settle();
        EDGES.due(15, "a school week that was won, without its extra", 1, x.release(0, 19));
        EDGES.due(15, "points then", 36 - 12 + 1, x.ownerOf(0, 1));
        EDGES.due(15, "it was won", 1, x.ownerOf(0, 3));
    }

    private static void bid() {
        Consumer<CottageWeeks> ends = x -> {
            Edges.busy(x);
            x.school(0, true);
            x.school(19, true);
        };
        owners(16, ends, (x, o) -> x.bid(o, 0, 0));
        weeks(16, ends, (x, w) -> x.bid(1, w, 0));
        EDGES.range(16, "extra: 0 to 20", Check.ARGUMENT, 0, 20, ends, (x, extra) -> x.bid(1, 19, extra));
        EDGES.refused(16, "no school week", Check.STATE, Edges::busy, x -> x.bid(0, 5, 0));
        Consumer<CottageWeeks> held = x -> {
            Edges.busy(x);
            x.school(1, true);
        };
        EDGES.refused(16, "it is held by another", Check.STATE, held, x -> x.bid(1, 1, 0));
        EDGES.refused(16, "it is held by the same", Check.STATE, held, x -> x.bid(0, 1, 0));
        EDGES.refused(16, "the owner before the extra", Check.BOUNDS, Edges::busy, x -> x.bid(2, 10, 21));
        EDGES.refused(16, "the week before the extra", Check.BOUNDS, Edges::busy, x -> x.bid(0, 20, -1));
        EDGES.refused(16, "the owner before the state", Check.BOUNDS, Edges::busy, x -> x.bid(-1, 5, 0));
        EDGES.refused(16, "the extra before the state, too small", Check.ARGUMENT, Edges::busy, x -> x.bid(0, 5, -1));
        EDGES.refused(16, "the extra before the state, too great", Check.ARGUMENT, held, x -> x.bid(0, 1, 21));
    }

    private static void bidAtTheEdges() {
        CottageWeeks x = Edges.house(1, 1, 1, 1, 1, 1);
        x.school(19, true);
        for (int o = 0; o < 6; o++) {
            EDGES.due(16, "how many bids there are then", o + 1, x.bid(o, 19, 20));
        }
        EDGES.due(16, "in place of an earlier one, smaller", 6, x.bid(5, 19, 0));
        EDGES.due(16, "its extra", 0, x.bidOf(5, 19));
        EDGES.due(16, "in place of an earlier one, greater", 6, x.bid(5, 19, 20));
        EDGES.due(16, "its extra", 20, x.bidOf(5, 19));
        EDGES.due(16, "in place of an earlier one, the same", 6, x.bid(5, 19, 20));
        EDGES.due(16, "a bid spends nothing", 4, x.ownerOf(5, 1));
        x.school(18, true);
        EDGES.due(16, "for another week", 1, x.bid(5, 18, 1));
        EDGES.due(16, "the other bid stays", 20, x.bidOf(5, 19));
        CottageWeeks y = Edges.house(1);
        y.cost(0, 4);
        y.take(0, 0);
        y.set(2, 1);
        y.school(1, true);
        EDGES.due(16, "without points, and with setting 2 weeks", 1, y.bid(0, 1, 20));
    }

    private static void settle() {
        EDGES.due(17, "nothing to settle", 0, new CottageWeeks().settle());
        CottageWeeks x = new CottageWeeks();
        x.set(0, 20);
        x.set(2, 10);
        Edges.come(x, 9, 9);
        for (int w = 0; w < 20; w++) {
            x.school(w, true);
            x.bid(w / 10, w, 0);
        }
        EDGES.due(17, "all 20 weeks are won", 20, x.settle());
        EDGES.due(17, "no week is free", 0, x.about(2));
        EDGES.due(17, "each is counted for who won it", 10, x.ownerOf(0, 3));
        EDGES.due(17, "each is counted for who won it", 10, x.ownerOf(1, 3));
        EDGES.due(17, "what they cost is spent", 60, x.about(4));
        EDGES.due(17, "no bids are left", 0, x.about(8));
        EDGES.due(17, "nothing more to settle", 0, x.settle());
    }

    /** How many weeks owner 0, with 8 points, wins by this bid. */
    private static int wins(int extra, Consumer<CottageWeeks> way) {
        CottageWeeks x = Edges.house(2, 9);
        x.school(19, true);
        x.bid(0, 19, extra);
        way.accept(x);
        int points = x.ownerOf(0, 1);
        int spent = x.about(4);
        int wins = x.settle();
        EDGES.due(17, "it spends what it costs and the extra", wins * (x.weekOf(19, 0) + extra),
                points - x.ownerOf(0, 1));
        EDGES.due(17, "spent so far", wins * (x.weekOf(19, 0) + extra), x.about(4) - spent);
        EDGES.due(17, "then all bids are gone", 0, x.about(8));
        EDGES.due(17, "it is won, or it is not", wins, x.ownerOf(0, 3));
        EDGES.due(17, "settle refuses nothing", 0, x.about(12));
        return wins;
    }

    private static void settleAtTheEdges() {
        EDGES.due(17, "just the points that it costs and the extra", 1, wins(5, x -> { }));
        EDGES.due(17, "a point too few", 0, wins(6, x -> { }));
        EDGES.due(17, "what it costs then", 0, wins(5, x -> x.cost(19, 4)));
        EDGES.due(17, "what it costs then", 1, wins(7, x -> x.cost(19, 1)));
        EDGES.due(17, "fewer than setting 2 weeks then", 1, wins(0, x -> {
            x.take(0, 0);
            x.set(2, 2);
        }));
        EDGES.due(17, "setting 2 weeks then", 0, wins(0, x -> {
            x.take(0, 0);
            x.set(2, 1);
        }));
        EDGES.due(17, "more than setting 2 weeks then", 0, wins(0, x -> {
            x.cost(0, 1);
            x.cost(1, 1);
            x.take(0, 0);
            x.take(0, 1);
            x.set(2, 1);
        }));
        EDGES.due(17, "no school week then", 0, wins(0, x -> x.school(19, false)));
        EDGES.due(17, "not free then", 0, wins(0, x -> {
            x.school(19, false);
            x.take(1, 19);
            x.school(19, true);
        }));
        CottageWeeks x = Edges.house(2, 9);
        x.school(19, true);
        x.bid(0, 19, 6);
        x.bid(1, 19, 0);
        EDGES.due(17, "who has not the points leaves it to the next", 1, x.settle());
        EDGES.due(17, "the next", 1, x.weekOf(19, 2));
        EDGES.due(17, "the extra of the winner is spent, not the other's", 33, x.ownerOf(1, 1));
        CottageWeeks y = Edges.house(3, 9);
        y.school(0, true);
        y.school(1, true);
        y.bid(0, 1, 4);
        y.bid(0, 0, 2);
        EDGES.due(17, "from the lowest week", 2, y.settle());
        EDGES.due(17, "all points", 0, y.ownerOf(0, 1));
        CottageWeeks z = Edges.house(3, 9);
        z.school(0, true);
        z.school(1, true);
        z.bid(0, 1, 5);
        z.bid(0, 0, 2);
        EDGES.due(17, "from the lowest week, a point too few for the next", 1, z.settle());
        EDGES.due(17, "the lowest week", 0, z.weekOf(0, 2));
    }

    private static int winnerOf(CottageWeeks x, int... extras) {
        x.school(19, true);
        for (int o = 0; o < extras.length; o++) {
            x.bid(o, 19, extras[o]);
        }
        x.settle();
        return x.weekOf(19, 2);
    }

    private static CottageWeeks withWins(int[] wins, int... shares) {
        CottageWeeks x = new CottageWeeks();
        x.set(0, 20);
        Edges.come(x, shares);
        for (int o = 0; o < wins.length; o++) {
            for (int i = 0; i < wins[o]; i++) {
                x.school(i, true);
                x.bid(o, i, 0);
            }
            x.settle();
            x.year();
        }
        return x;
    }

    private static void settleTies() {
        int[] none = {0, 0, 0};
        EDGES.due(17, "the greatest extra, though 1 more", 1, winnerOf(withWins(none, 9, 1, 9), 4, 5, 4));
        EDGES.due(17, "the greatest extra, 0 against none", 2, winnerOf(withWins(none, 1, 9, 1), 0, 0, 1));
        EDGES.due(17, "the greatest extra before the fewest won", 0,
                winnerOf(withWins(new int[] {2, 0, 0}, 1, 9, 9), 20, 19, 19));
        EDGES.due(17, "the fewest won, 1 less", 1, winnerOf(withWins(new int[] {2, 1, 2}, 9, 1, 9), 3, 3, 3));
        EDGES.due(17, "the fewest won before the share", 2,
                winnerOf(withWins(new int[] {1, 1, 0}, 9, 9, 1), 3, 3, 3));
        EDGES.due(17, "the greatest share, 1 more", 1, winnerOf(withWins(none, 4, 5, 4), 3, 3, 3));
        EDGES.due(17, "the greatest share of the last", 2, winnerOf(withWins(none, 8, 8, 9), 3, 3, 3));
        EDGES.due(17, "the lowest of the same share", 0, winnerOf(withWins(none, 9, 9, 9), 3, 3, 3));
        EDGES.due(17, "the lowest of those with the greatest share", 1, winnerOf(withWins(none, 1, 9, 9), 3, 3, 3));
        CottageWeeks x = Edges.house(9, 1);
        for (int w = 0; w < 2; w++) {
            x.school(w, true);
            x.bid(0, w, 1);
            x.bid(1, w, 0);
        }
        x.bid(1, 1, 1);
        x.settle();
        EDGES.due(17, "won so far, that of a lower week too", 1, x.weekOf(1, 2));
    }

    /** All mixes of 2 extras, 2 counts of wins and 2 shares for each of three owners. */
    private static void settleMixes() {
        for (int mix = 0; mix < 512; mix++) {
            int[] extras = new int[3];
            int[] wins = new int[3];
            int[] shares = new int[3];
            int first = 0;
            int[] rank = new int[3];
            for (int o = 0; o < 3; o++) {
                extras[o] = mix >> 3 * o & 1;
                wins[o] = mix >> 3 * o + 1 & 1;
                shares[o] = 1 + (mix >> 3 * o + 2 & 1);
                rank[o] = 1000 * extras[o] - 100 * wins[o] + 10 * shares[o] - o;
                first = rank[o] > rank[first] ? o : first;
            }
            EDGES.due(17, "extra, fewest won, share, lowest: mix " + mix, first,
                    winnerOf(withWins(wins, shares), extras));
        }
    }

    private static void offer() {
        Consumer<CottageWeeks> way = x -> {
            Edges.come(x, 9, 9);
            x.set(2, 10);
            x.take(0, 0);
            x.take(0, 19);
            x.take(1, 1);
        };
        EDGES.range(18, "an owner that exists", Check.BOUNDS, 0, 1, way, (x, o) -> x.offer(o, o, 1 - o));
        weeks(18, way, (x, w) -> x.offer(0, w, 1));
        weeks(18, way, (x, w) -> x.offer(1, 1, w));
        EDGES.refused(18, "nobody holds the first week", Check.STATE, way, x -> x.offer(0, 5, 1));
        EDGES.refused(18, "another one holds the first week", Check.STATE, way, x -> x.offer(0, 1, 0));
        EDGES.refused(18, "nobody holds the other one", Check.STATE, way, x -> x.offer(0, 0, 5));
        EDGES.refused(18, "the same owner holds the other one", Check.STATE, way, x -> x.offer(0, 0, 19));
        EDGES.refused(18, "a week for itself", Check.STATE, way, x -> x.offer(0, 0, 0));
        EDGES.refused(18, "two free weeks", Check.STATE, way, x -> x.offer(0, 5, 6));
        EDGES.refused(18, "the owner before the state", Check.BOUNDS, way, x -> x.offer(2, 5, 6));
        EDGES.refused(18, "the week before the state", Check.BOUNDS, way, x -> x.offer(0, 20, 5));
        EDGES.refused(18, "the other week before the state", Check.BOUNDS, way, x -> x.offer(0, 5, 20));
        CottageWeeks x = Edges.made(way);
        for (int k = 0; k < 8; k++) {
            EDGES.due(18, "the number of the offer", k, x.offer(k % 2, k % 2, 1 - k % 2));
        }
        Consumer<CottageWeeks> eight = way.andThen(y -> {
            for (int k = 0; k < 8; k++) {
                y.offer(0, 0, 1);
            }
        });
        EDGES.refused(18, "there are 8 offers", Check.STATE, eight, y -> y.offer(1, 1, 0));
        EDGES.refused(18, "there are 8 offers, the week is told first", Check.BOUNDS, eight, y -> y.offer(1, 1, 20));
        x.accept(3);
        EDGES.due(18, "there are 7 offers", 7, x.offer(1, 0, 1));
    }

    private static void accept() {
        EDGES.range(19, "an offer that exists", Check.BOUNDS, 0, 1, Edges::busy, CottageWeeks::accept);
        EDGES.refused(19, "without offers", Check.BOUNDS, x -> { }, x -> x.accept(0));
        EDGES.refused(19, "the last one is gone", Check.BOUNDS, x -> {
            Edges.busy(x);
            x.accept(0);
        }, x -> x.accept(1));
        EDGES.refused(19, "all are gone in a new year", Check.BOUNDS, x -> {
            Edges.busy(x);
            x.year();
        }, x -> x.accept(0));
        CottageWeeks x = Edges.made(Edges::busy);
        x.set(2, 1);
        x.school(1, true);
        x.cost(2, 9);
        EDGES.due(19, "both weeks change their holders", 1, x.accept(0));
        EDGES.due(19, "the first", 1, x.weekOf(1, 2));
        EDGES.due(19, "the other", 0, x.weekOf(2, 2));
        EDGES.due(19, "it is gone", 1, x.about(9));
        EDGES.due(19, "the points stay", 15, x.ownerOf(0, 1));
        EDGES.due(19, "the points stay", 22, x.ownerOf(1, 1));
        EDGES.due(19, "it is not won", 0, x.ownerOf(1, 3));
        EDGES.due(19, "swaps done", 1, x.about(10));
        EDGES.due(19, "no void", 0, x.about(11));
    }

    /** What accept answers; owners 0 to 2 hold weeks 0 to 2, and 0 offers week 0 for 1. */
    private static void accepted(String sentence, int want, Consumer<CottageWeeks> way) {
        CottageWeeks x = Edges.house(9, 9, 9);
        for (int o = 0; o < 3; o++) {
            x.take(o, o);
        }
        x.offer(0, 0, 1);
        way.accept(x);
        int first = x.weekOf(0, 2);
        int other = x.weekOf(1, 2);
        int swaps = x.about(10);
        EDGES.due(10, sentence + ", 1 if it is void now", 1 - want, x.offerOf(0, 3));
        EDGES.due(19, sentence, want, x.accept(0));
        EDGES.due(19, sentence + ", the first week", want == 1 ? other : first, x.weekOf(0, 2));
        EDGES.due(19, sentence + ", the other week", want == 1 ? first : other, x.weekOf(1, 2));
        EDGES.due(19, sentence + ", it is gone", 0, x.about(9));
        EDGES.due(19, sentence + ", swaps done", swaps + want, x.about(10));
        EDGES.due(19, sentence + ", offers void", 1 - want, x.about(11));
    }

    private static void acceptVoid() {
        accepted("both are held as then", 1, x -> { });
        accepted("the other one is held by a third", 1, x -> {
            x.release(1, 1);
            x.take(2, 1);
        });
        accepted("the first one is taken again", 1, x -> {
            x.release(0, 0);
            x.take(0, 0);
        });
        accepted("the first one is free", 0, x -> x.release(0, 0));
        accepted("the first one is held by a third", 0, x -> {
            x.release(0, 0);
            x.take(2, 0);
        });
        accepted("the first one is held by who held the other", 0, x -> {
            x.release(0, 0);
            x.take(1, 0);
        });
        accepted("the other one is free", 0, x -> x.release(1, 1));
        accepted("the other one is held by the same", 0, x -> {
            x.release(1, 1);
            x.take(0, 1);
        });
        accepted("both are swapped by another offer", 0, x -> {
            x.offer(1, 1, 0);
            x.accept(1);
        });
        accepted("both are free", 0, x -> {
            x.release(0, 0);
            x.release(1, 1);
        });
    }

    /** Eight offers, of which this one is gone: those behind it get numbers that are 1 less. */
    private static void acceptMovesUp() {
        for (int gone = 0; gone < 8; gone++) {
            CottageWeeks x = new CottageWeeks();
            x.set(2, 10);
            Edges.come(x, 9, 9);
            for (int w = 0; w < 16; w++) {
                x.cost(w, 1);
                x.take(w % 2, w);
            }
            for (int k = 0; k < 8; k++) {
                x.offer(k % 2, k, 15 - k);
            }
            EDGES.due(19, "number " + gone + " of 8", 1, x.accept(gone));
            EDGES.due(19, "seven are left", 7, x.about(9));
            for (int k = 0; k < 7; k++) {
                int was = k < gone ? k : k + 1;
                EDGES.due(19, "who offers " + was, was % 2, x.offerOf(k, 0));
                EDGES.due(19, "the week of " + was, was, x.offerOf(k, 1));
                EDGES.due(19, "the other week of " + was, 15 - was, x.offerOf(k, 2));
            }
            EDGES.due(19, "number 7 is not there", Check.BOUNDS, Check.answer(() -> x.accept(7)));
        }
    }

    private static void upkeep() {
        EDGES.range(20, "coins: 1 to 999", Check.ARGUMENT, 1, 999, Edges::busy, CottageWeeks::upkeep);
        EDGES.refused(20, "there are no owners", Check.STATE, x -> { }, x -> x.upkeep(1));
        EDGES.refused(20, "no owners, the coins are told first, too few", Check.ARGUMENT, x -> { },
                x -> x.upkeep(0));
        EDGES.refused(20, "no owners, the coins are told first, too many", Check.ARGUMENT, x -> { },
                x -> x.upkeep(1000));
        CottageWeeks x = Edges.house(1);
        EDGES.due(20, "one owner pays all", 1, x.upkeep(1));
        EDGES.due(20, "one owner pays all", 999, x.upkeep(999));
        EDGES.due(20, "coins so far", 1000, x.ownerOf(0, 4));
        EDGES.due(20, "coins so far, of all", 1000, x.about(13));
        EDGES.due(20, "no points are paid", 4, x.ownerOf(0, 1));
        x.owner(9);
        EDGES.due(20, "who comes later has not paid", 0, x.ownerOf(1, 4));
    }

    private static void upkeepLeft() {
        parts("nothing is left", new int[] {1, 3}, 8, 2, 6);
        parts("1 is left, for whom most was left", new int[] {1, 3}, 9, 2, 7);
        parts("1 is left, of several the lowest", new int[] {1, 1}, 7, 4, 3);
        parts("1 coin, of several the lowest", new int[] {2, 2, 2, 2, 2, 2}, 1, 1, 0, 0, 0, 0, 0);
        parts("5 are left, none for the last", new int[] {2, 2, 2, 2, 2, 2}, 5, 1, 1, 1, 1, 1, 0);
        parts("6 coins, none is left", new int[] {2, 2, 2, 2, 2, 2}, 6, 1, 1, 1, 1, 1, 1);
        parts("1 coin for the greatest share", new int[] {4, 5}, 1, 0, 1);
        parts("most was left of the smallest share", new int[] {9, 1}, 9, 8, 1);
        parts("2 are left, for the two with most", new int[] {3, 2, 5}, 9, 3, 2, 4);
        parts("the greatest", new int[] {9, 9, 9, 9, 9, 9}, 999, 167, 167, 167, 166, 166, 166);
    }

    private static void parts(String sentence, int[] shares, int coins, int... want) {
        CottageWeeks x = Edges.house(shares);
        int most = 0;
        x.upkeep(coins);
        for (int o = 0; o < shares.length; o++) {
            EDGES.due(20, sentence + ", owner " + o + " of " + coins, want[o], x.ownerOf(o, 4));
            most = Math.max(most, want[o]);
        }
        EDGES.due(20, sentence + ", the most that one pays", most, Edges.house(shares).upkeep(coins));
        EDGES.due(20, sentence + ", all coins", coins, x.about(13));
    }

    private static void year() {
        CottageWeeks none = new CottageWeeks();
        EDGES.due(21, "without owners", 0, none.year());
        EDGES.due(21, "the second year", 1, none.about(1));
        CottageWeeks x = Edges.made(Edges::busy);
        EDGES.due(21, "the points that lapse", 8 + 15, x.year());
        EDGES.due(21, "all weeks are free", 20, x.about(2));
        EDGES.due(21, "there are no bids", 0, x.about(8));
        EDGES.due(21, "there is no bid of 0", -1, x.bidOf(1, 11));
        EDGES.due(21, "there are no offers", 0, x.about(9));
        EDGES.due(21, "what is carried and given", 7 + 18, x.ownerOf(0, 1));
        EDGES.due(21, "what is carried and given", 7 + 30, x.ownerOf(1, 1));
        EDGES.due(21, "school weeks stay", 1, x.weekOf(10, 1));
        EDGES.due(21, "costs stay", 8, x.weekOf(2, 0));
        EDGES.due(21, "coins stay", 50, x.about(13));
        EDGES.due(21, "refused ones stay", 1, x.about(12));
        EDGES.due(21, "settings stay", 7, x.set(1, 7));
        EDGES.due(21, "nothing is got back for the weeks", 0, x.about(5));
        EDGES.due(21, "no offer is void", 0, x.about(11));
    }

    /** An owner with these points and this setting 1. */
    private static void lapses(int points, int carried, int want) {
        CottageWeeks x = new CottageWeeks();
        x.set(0, points);
        x.owner(1);
        x.set(0, 20);
        x.set(1, carried);
        String sentence = points + " points, " + carried + " are carried";
        EDGES.due(21, sentence + ": what lapses", want, x.year());
        EDGES.due(21, sentence + ": those given then do not lapse", points - want + 20, x.ownerOf(0, 1));
        EDGES.due(21, sentence + ": lapsed so far", want, x.about(6));
        EDGES.due(21, sentence + ": given so far", points + 20, x.about(3));
    }

    private static void yearLapses() {
        lapses(5, 5, 0);
        lapses(6, 5, 1);
        lapses(4, 5, 0);
        lapses(1, 0, 1);
        lapses(20, 0, 20);
        lapses(20, 20, 0);
        lapses(20, 19, 1);
        lapses(1, 20, 0);
        CottageWeeks x = Edges.house(1, 2, 1);
        x.cost(0, 4);
        x.take(0, 0);
        EDGES.due(21, "of each owner those above, not of all together", 3, x.year());
        EDGES.due(21, "0 points, none lapse", 4, x.ownerOf(0, 1));
        EDGES.due(21, "8 points, 3 lapse", 13, x.ownerOf(1, 1));
        EDGES.due(21, "4 points, none lapse", 8, x.ownerOf(2, 1));
        EDGES.due(21, "in the next year those of that year", 8 + 3, x.year());
        EDGES.due(6, "lapsed so far, in all years", 3 + 11, x.about(6));
        EDGES.due(6, "given so far, in all years", 3 * 16, x.about(3));
    }

    private static void set() {
        EDGES.range(22, "what: 0 to 2", Check.ARGUMENT, 0, 2, Edges::busy, (x, what) -> x.set(what, 5));
        EDGES.range(22, "points for a share, 1 to 20", Check.ARGUMENT, 1, 20, Edges::busy, (x, v) -> x.set(0, v));
        EDGES.range(22, "points carried, 0 to 20", Check.ARGUMENT, 0, 20, Edges::busy, (x, v) -> x.set(1, v));
        EDGES.range(22, "weeks held, 1 to 10", Check.ARGUMENT, 1, 10, Edges::busy, (x, v) -> x.set(2, v));
        int[] first = {4, 5, 3};
        int[] least = {1, 0, 1};
        int[] most = {20, 20, 10};
        for (int what = 0; what < 3; what++) {
            CottageWeeks x = new CottageWeeks();
            EDGES.due(22, "the previous one, at first", first[what], x.set(what, most[what]));
            EDGES.due(22, "the previous one, the most", most[what], x.set(what, least[what]));
            EDGES.due(22, "the previous one, the least", least[what], x.set(what, least[what]));
            EDGES.due(22, "the same again is an action", 2, x.undo());
            EDGES.due(22, "the others stay", first[(what + 1) % 3], x.set((what + 1) % 3, 9));
            EDGES.due(22, "the others stay", first[(what + 2) % 3], x.set((what + 2) % 3, 9));
        }
    }

    private static void settingsInUse() {
        CottageWeeks x = Edges.house(9);
        x.set(0, 20);
        EDGES.due(22, "points that are there stay", 36, x.ownerOf(0, 1));
        x.set(1, 0);
        EDGES.due(22, "points that are there stay", 36, x.ownerOf(0, 1));
        x.take(0, 0);
        x.take(0, 1);
        x.set(2, 1);
        EDGES.due(22, "weeks that are held stay", 2, x.ownerOf(0, 2));
    }

    private static void undo() {
        EDGES.refused(23, "none is remembered", Check.STATE, x -> { }, CottageWeeks::undo);
        EDGES.refused(23, "the only one is taken back", Check.STATE, x -> {
            x.owner(1);
            x.undo();
        }, CottageWeeks::undo);
        EDGES.refused(23, "restore forgets", Check.STATE, x -> {
            Edges.busy(x);
            x.restore(1);
        }, CottageWeeks::undo);
        EDGES.refused(23, "load forgets", Check.STATE, x -> {
            Edges.busy(x);
            x.load();
        }, CottageWeeks::undo);
        EDGES.refused(23, "text, looks and slots are no actions", Check.STATE, x -> {
            Edges.write(x, "C");
            x.clearText();
            x.errorPosition();
            x.about(0);
            x.weekOf(0, 0);
            x.could(0);
            x.could(1);
            x.winner(0);
            x.runScript(1, 700000);
            x.simulate(1, 60);
            x.save(0);
        }, CottageWeeks::undo);
        CottageWeeks x = new CottageWeeks();
        x.owner(1);
        EDGES.due(23, "the first of one", 0, x.undo());
        EDGES.due(23, "it is taken back", 0, x.about(0));
    }

    private static void undoAtFourteen() {
        for (int actions : new int[] {13, 14, 15, 16, 28, 29, 43}) {
            CottageWeeks x = new CottageWeeks();
            for (int i = 0; i < actions; i++) {
                x.year();
            }
            int remembered = Math.min(actions, 14);
            for (int left = remembered - 1; left >= 0; left--) {
                EDGES.due(23, "still remembered of " + actions, left, x.undo());
                EDGES.due(23, "the state before, of " + actions, actions - remembered + left, x.about(1));
            }
            EDGES.due(23, "none is remembered of " + actions, Check.STATE, Check.answer(x::undo));
            EDGES.due(23, "the oldest is forgotten of " + actions, actions - remembered, x.about(1));
        }
        CottageWeeks x = new CottageWeeks();
        for (int i = 0; i < 20; i++) {
            x.year();
        }
        for (int i = 0; i < 10; i++) {
            x.undo();
        }
        for (int i = 0; i < 10; i++) {
            x.year();
        }
        EDGES.due(23, "14 again after undo", 13, x.undo());
        EDGES.due(23, "the year before", 19, x.about(1));
        EDGES.due(23, "undo is no action", 12, x.undo());
    }

    /** Each action is one state more, and undo takes back the whole of it. */
    private static void everyActionIsRemembered() {
        remembered("owner", x -> x.owner(9));
        remembered("cost", x -> x.cost(2, 9));
        remembered("cost, the same", x -> x.cost(2, 8));
        remembered("school", x -> x.school(10, false));
        remembered("school, the same", x -> x.school(10, true));
        remembered("take", x -> x.take(0, 0));
        remembered("take, refused", x -> x.take(0, 2));
        remembered("release", x -> x.release(1, 2));
        remembered("bid", x -> x.bid(0, 11, 20));
        remembered("settle", CottageWeeks::settle);
        remembered("offer", x -> x.offer(0, 1, 2));
        remembered("accept", x -> x.accept(0));
        remembered("upkeep", x -> x.upkeep(999));
        remembered("year", CottageWeeks::year);
        remembered("set", x -> x.set(2, 9));
        CottageWeeks x = Edges.made(Edges::busy);
        x.accept(0);
        String before = Check.shown(x);
        x.accept(0);
        EDGES.due(23, "a void accept is an action", 13, x.undo());
        EDGES.due(23, "a void accept is taken back", before, Check.shown(x));
        CottageWeeks y = new CottageWeeks();
        y.settle();
        EDGES.due(23, "settle without bids is an action", 0, y.undo());
        y.set(1, 20);
        y.undo();
        EDGES.due(23, "a setting is taken back", 5, y.set(1, 5));
    }

    private static void remembered(String action, ToIntFunction<CottageWeeks> call) {
        CottageWeeks x = Edges.made(Edges::busy);
        x.undo();
        String before = Check.shown(x);
        call.applyAsInt(x);
        EDGES.due(23, action + " is an action", 13, x.undo());
        EDGES.due(23, action + " is taken back", before, Check.shown(x));
        EDGES.due(23, action + ", those before are remembered", 12, x.undo());
    }
}

import java.util.function.Consumer;

/** The boundary sentences of promises 6 to 10 and 24 to 28: what there is, and what would be. */
public final class HouseEdgesTest {
    private static final Edges EDGES = new Edges();

    public static void main(String[] args) {
        about();
        aboutEmptyAndFull();
        ownerOf();
        ownerOfEmptyAndFull();
        weekOf();
        bidOf();
        offerOf();
        why();
        whyReasons();
        could();
        couldMoving();
        winner();
        winnerThen();
        leastBid();
        leastBidAgainstOthers();
        ifUpkeep();
        EDGES.end();
    }

    private static void owners(int promise, Edges.WithNumber call) {
        EDGES.range(promise, "an owner that exists", Check.BOUNDS, 0, 1, Edges::busy, call);
        EDGES.refused(promise, "owner 0 without owners", Check.BOUNDS, x -> { }, x -> call.call(x, 0));
    }

    private static void weeks(int promise, Edges.WithNumber call) {
        EDGES.range(promise, "a week that exists", Check.BOUNDS, 0, 19, Edges::busy, call);
    }

    private static void about() {
        EDGES.range(6, "what: 0 to 13", Check.ARGUMENT, 0, 13, Edges::busy, CottageWeeks::about);
        int[] want = {2, 0, 18, 48, 11, 0, 0, 37, 3, 2, 0, 0, 1, 50};
        for (int what = 0; what <= 13; what++) {
            int w = what;
            EDGES.looks(6, "number " + what, want[what], Edges::busy, x -> x.about(w));
        }
        CottageWeeks x = Edges.made(Edges::busy);
        x.accept(0);
        EDGES.due(6, "a swap is done", 1, x.about(10));
        EDGES.due(6, "no offer is void yet", 0, x.about(11));
        x.accept(0);
        EDGES.due(6, "the other was void", 1, x.about(11));
        EDGES.due(6, "no more swap is done", 1, x.about(10));
        x.release(1, 1);
        EDGES.due(6, "points got for a week", 1, x.about(5));
        x.year();
        EDGES.due(6, "the points of each owner above 7 lapse", (15 - 7) + (23 - 7), x.about(6));
        EDGES.due(6, "points given in a year", 48 + 48, x.about(3));
        EDGES.due(6, "given, spent, got, lapsed make the points", x.about(3) - x.about(4) + x.about(5) - x.about(6),
                x.about(7));
    }

    /** Six owners hold all weeks, bid for nothing, and there are 8 offers. */
    private static void allHeld(CottageWeeks x) {
        x.set(2, 4);
        Edges.come(x, 9, 9, 9, 9, 9, 9);
        for (int w = 0; w < 20; w++) {
            x.take(w % 6, w);
        }
        for (int k = 0; k < 8; k++) {
            x.offer(k % 6, k, k + 1);
        }
    }

    /** All 20 weeks are school weeks, and all six owners bid for each. */
    private static void allBid(CottageWeeks x) {
        Edges.come(x, 1, 2, 3, 4, 5, 6);
        for (int w = 0; w < 20; w++) {
            x.school(w, true);
            for (int o = 0; o < 6; o++) {
                x.bid(o, w, o);
            }
        }
    }

    private static void aboutEmptyAndFull() {
        CottageWeeks x = new CottageWeeks();
        EDGES.due(6, "all weeks are free", 20, x.about(2));
        EDGES.due(6, "no points without owners", 0, x.about(7));
        CottageWeeks y = Edges.made(HouseEdgesTest::allHeld);
        EDGES.due(6, "6 owners", 6, y.about(0));
        EDGES.due(6, "no week is free", 0, y.about(2));
        EDGES.due(6, "points spent for all weeks", 60, y.about(4));
        EDGES.due(6, "8 offers", 8, y.about(9));
        CottageWeeks z = Edges.made(HouseEdgesTest::allBid);
        EDGES.due(6, "120 bids", 120, z.about(8));
        z.bid(0, 0, 20);
        EDGES.due(6, "a bid in place of another is no more", 120, z.about(8));
        z.school(0, false);
        EDGES.due(6, "bids that stay are bids", 120, z.about(8));
    }

    private static void ownerOf() {
        owners(7, (x, o) -> x.ownerOf(o, 0));
        EDGES.range(7, "what: 0 to 6", Check.ARGUMENT, 0, 6, Edges::busy, (x, what) -> x.ownerOf(1, what));
        EDGES.refused(7, "the owner is told before what, too small", Check.BOUNDS, Edges::busy, x -> x.ownerOf(2, -1));
        EDGES.refused(7, "the owner is told before what, too great", Check.BOUNDS, Edges::busy, x -> x.ownerOf(-1, 7));
        int[][] want = {{3, 15, 1, 0, 19, 1, 1}, {5, 22, 1, 0, 31, 2, 2}};
        for (int o = 0; o < 2; o++) {
            for (int what = 0; what <= 6; what++) {
                int owner = o;
                int w = what;
                EDGES.looks(7, "number " + what + " of owner " + o, want[o][what], Edges::busy,
                        x -> x.ownerOf(owner, w));
            }
        }
    }

    private static void ownerOfEmptyAndFull() {
        CottageWeeks x = Edges.house(9);
        EDGES.due(7, "no weeks held", 0, x.ownerOf(0, 2));
        EDGES.due(7, "the lowest week held, NONE without one", -1, x.ownerOf(0, 5));
        x.take(0, 19);
        EDGES.due(7, "the last week is the lowest", 19, x.ownerOf(0, 5));
        x.take(0, 0);
        EDGES.due(7, "the first week is the lowest", 0, x.ownerOf(0, 5));
        x.release(0, 0);
        x.release(0, 19);
        EDGES.due(7, "NONE again", -1, x.ownerOf(0, 5));
        x.set(2, 10);
        for (int w = 10; w < 20; w++) {
            x.take(0, w);
        }
        EDGES.due(7, "10 weeks held", 10, x.ownerOf(0, 2));
        CottageWeeks y = Edges.made(HouseEdgesTest::allBid);
        EDGES.due(7, "20 bids of the sixth", 20, y.ownerOf(5, 6));
        EDGES.refused(7, "there is no seventh", Check.BOUNDS, HouseEdgesTest::allBid, z -> z.ownerOf(6, 0));
        y.settle();
        EDGES.due(7, "school weeks won", 2, y.ownerOf(4, 3));
        EDGES.due(7, "no bids then", 0, y.ownerOf(5, 6));
        y.year();
        y.bid(4, 19, 0);
        y.settle();
        EDGES.due(7, "school weeks won in all years", 3, y.ownerOf(4, 3));
        y.release(4, 19);
        EDGES.due(7, "a week that is given back was won", 3, y.ownerOf(4, 3));
    }

    private static void weekOf() {
        weeks(8, (x, w) -> x.weekOf(w, 0));
        EDGES.range(8, "what: 0 to 4", Check.ARGUMENT, 0, 4, Edges::busy, (x, what) -> x.weekOf(19, what));
        EDGES.refused(8, "the week is told before what, too small", Check.BOUNDS, Edges::busy, x -> x.weekOf(20, -1));
        EDGES.refused(8, "the week is told before what, too great", Check.BOUNDS, Edges::busy, x -> x.weekOf(-1, 5));
        int[][] want = {{3, 0, 0, 0, -1}, {8, 0, 1, 0, -1}, {3, 1, -1, 2, 4}, {3, 1, -1, 1, 0}, {3, 0, -1, 0, -1}};
        int[] week = {1, 2, 10, 11, 19};
        for (int i = 0; i < week.length; i++) {
            for (int what = 0; what <= 4; what++) {
                int w = week[i];
                int number = what;
                EDGES.looks(8, "number " + what + " of week " + w, want[i][what], Edges::busy,
                        x -> x.weekOf(w, number));
            }
        }
        CottageWeeks x = Edges.made(HouseEdgesTest::allBid);
        EDGES.due(8, "6 bids", 6, x.weekOf(19, 3));
        EDGES.due(8, "the greatest extra, of the last", 5, x.weekOf(19, 4));
        x.bid(0, 19, 20);
        EDGES.due(8, "the greatest extra, of the first", 20, x.weekOf(19, 4));
        x.school(19, false);
        EDGES.due(8, "bids stay", 6, x.weekOf(19, 3));
        x.settle();
        EDGES.due(8, "no bids then", 0, x.weekOf(19, 3));
        EDGES.due(8, "NONE without one", -1, x.weekOf(19, 4));
    }

    private static void bidOf() {
        owners(9, (x, o) -> x.bidOf(o, 0));
        weeks(9, (x, w) -> x.bidOf(1, w));
        EDGES.looks(9, "its extra", 4, Edges::busy, x -> x.bidOf(0, 10));
        EDGES.looks(9, "an extra of 0 is a bid", 0, Edges::busy, x -> x.bidOf(1, 11));
        EDGES.looks(9, "NONE if there is none", -1, Edges::busy, x -> x.bidOf(0, 11));
        CottageWeeks x = Edges.made(HouseEdgesTest::allBid);
        EDGES.due(9, "the bid of the last owner for the last week", 5, x.bidOf(5, 19));
        EDGES.due(9, "the bid of the first owner for the first week", 0, x.bidOf(0, 0));
        x.bid(5, 18, 20);
        EDGES.due(9, "the most extra", 20, x.bidOf(5, 18));
        EDGES.due(9, "another week's bid is kept", 5, x.bidOf(5, 19));
        EDGES.due(9, "another owner's bid is kept", 4, x.bidOf(4, 18));
    }

    private static void offerOf() {
        EDGES.range(10, "an offer that exists", Check.BOUNDS, 0, 1, Edges::busy, (x, k) -> x.offerOf(k, 0));
        EDGES.range(10, "eight offers", Check.BOUNDS, 0, 7, HouseEdgesTest::allHeld, (x, k) -> x.offerOf(k, 0));
        EDGES.refused(10, "without offers", Check.BOUNDS, x -> { }, x -> x.offerOf(0, 0));
        EDGES.range(10, "what: 0 to 3", Check.ARGUMENT, 0, 3, Edges::busy, (x, what) -> x.offerOf(1, what));
        EDGES.refused(10, "the offer is told before what, too small", Check.BOUNDS, Edges::busy,
                x -> x.offerOf(2, -1));
        EDGES.refused(10, "the offer is told before what, too great", Check.BOUNDS, Edges::busy,
                x -> x.offerOf(-1, 4));
        int[][] want = {{0, 1, 2, 0}, {1, 2, 1, 0}};
        for (int k = 0; k < 2; k++) {
            for (int what = 0; what <= 3; what++) {
                int offer = k;
                int w = what;
                EDGES.looks(10, "number " + what + " of offer " + k, want[k][what], Edges::busy,
                        x -> x.offerOf(offer, w));
            }
        }
        CottageWeeks x = Edges.made(HouseEdgesTest::allHeld);
        EDGES.due(10, "who offers, the last offer", 1, x.offerOf(7, 0));
        EDGES.due(10, "its week", 7, x.offerOf(7, 1));
        EDGES.due(10, "the week for which it is", 8, x.offerOf(7, 2));
        EDGES.due(10, "it is not void as there are 8 offers", 0, x.offerOf(7, 3));
        EDGES.due(10, "nor is the first one", 0, x.offerOf(0, 3));
    }

    private static void why() {
        owners(24, (x, o) -> x.why(o, 0));
        weeks(24, (x, w) -> x.why(1, w));
        EDGES.looks(24, "0 if it can be taken", 0, Edges::busy, x -> x.why(0, 0));
        EDGES.looks(24, "a school week", 1, Edges::busy, x -> x.why(0, 10));
        EDGES.looks(24, "held by another", 2, Edges::busy, x -> x.why(0, 2));
        EDGES.looks(24, "held by itself", 2, Edges::busy, x -> x.why(1, 2));
        EDGES.looks(24, "holds setting 2 weeks", 3, x -> {
            Edges.busy(x);
            x.set(2, 1);
        }, x -> x.why(0, 0));
        EDGES.looks(24, "fewer points than it costs", 4, x -> {
            x.owner(1);
            x.cost(0, 5);
        }, x -> x.why(0, 0));
    }

    /** What is so of reasons 1 to 4 is a bit each; the first of them is told. */
    private static void whyReasons() {
        for (int reasons = 0; reasons < 16; reasons++) {
            CottageWeeks x = Edges.house(1, 9);
            x.cost(5, (reasons & 8) != 0 ? 2 : 1);
            if ((reasons & 2) != 0) {
                x.take(1, 5);
            }
            x.take(0, 0);
            x.set(2, (reasons & 4) != 0 ? 1 : 2);
            x.school(5, (reasons & 1) != 0);
            int first = reasons == 0 ? 0 : 1 + Integer.numberOfTrailingZeros(reasons);
            EDGES.due(24, "the first of the reasons that is so, of bits " + reasons, first, x.why(0, 5));
            EDGES.due(14, "the first of the reasons that is so, of bits " + reasons, first, x.take(0, 5));
        }
    }

    private static void could(String sentence, int want, Consumer<CottageWeeks> way) {
        EDGES.looks(25, sentence + ", way 0", want, way, x -> x.could(0));
        EDGES.looks(25, sentence + ", way 1", want, way, x -> x.could(1));
    }

    /** Only the weeks below this number are free and no school weeks. */
    private static void onlyBelow(CottageWeeks x, int weeks) {
        for (int w = weeks; w < 20; w++) {
            x.school(w, true);
        }
    }

    private static void could() {
        EDGES.range(25, "way is 0 or 1", Check.ARGUMENT, 0, 1, Edges::busy, CottageWeeks::could);
        could("no owners", 0, x -> { });
        could("one owner", 1, x -> x.owner(1));
        could("six owners", 6, x -> Edges.come(x, 1, 1, 1, 1, 1, 1));
        for (int weeks = 0; weeks <= 7; weeks++) {
            int n = weeks;
            could("six owners, weeks: " + weeks, Math.min(weeks, 6), x -> {
                Edges.come(x, 1, 2, 3, 4, 5, 6);
                onlyBelow(x, n);
            });
        }
        could("no week is free", 0, HouseEdgesTest::allHeld);
        could("only the last week is free", 1, x -> {
            allHeld(x);
            x.set(2, 10);
            x.release(1, 19);
        });
        could("points just suffice", 1, x -> {
            x.owner(1);
            onlyBelow(x, 1);
            x.cost(0, 4);
        });
        could("points do not suffice", 0, x -> {
            x.owner(1);
            onlyBelow(x, 1);
            x.cost(0, 5);
        });
        could("one holds setting 2 weeks", 1, x -> {
            Edges.come(x, 9, 9);
            x.take(0, 0);
            x.set(2, 1);
        });
        could("each takes one week, not more", 2, x -> Edges.come(x, 9, 9));
    }

    private static void couldMoving() {
        could("those before are moved, one after the other", 6, x -> {
            x.set(0, 1);
            Edges.come(x, 6, 5, 4, 3, 2, 1);
            onlyBelow(x, 6);
            for (int w = 0; w < 6; w++) {
                x.cost(w, w + 1);
            }
        });
        could("those before are moved, but one has no place", 5, x -> {
            x.set(0, 1);
            Edges.come(x, 6, 5, 4, 3, 1, 1);
            onlyBelow(x, 6);
            for (int w = 0; w < 6; w++) {
                x.cost(w, w + 1);
            }
        });
        could("two have one week only", 1, x -> {
            Edges.come(x, 1, 1);
            onlyBelow(x, 2);
            x.cost(1, 5);
        });
    }

    private static void winner() {
        weeks(26, CottageWeeks::winner);
        EDGES.looks(26, "the owner", 0, Edges::busy, x -> x.winner(10));
        EDGES.looks(26, "an extra of 0 wins too", 1, Edges::busy, x -> x.winner(11));
        EDGES.looks(26, "NONE without bids", -1, x -> {
            Edges.busy(x);
            x.school(19, true);
        }, x -> x.winner(19));
        EDGES.looks(26, "NONE without owners", -1, x -> x.school(0, true), x -> x.winner(0));
        EDGES.looks(26, "NONE if it is no school week", -1, x -> {
            Edges.busy(x);
            x.school(10, false);
        }, x -> x.winner(10));
        EDGES.looks(26, "NONE if it is held", -1, x -> {
            Edges.busy(x);
            x.school(10, false);
            x.take(1, 10);
            x.school(10, true);
        }, x -> x.winner(10));
        EDGES.looks(26, "it has just the points", 0, x -> bidder(x, 1), x -> x.winner(19));
        EDGES.looks(26, "it has one point too few", -1, x -> bidder(x, 2), x -> x.winner(19));
        EDGES.looks(26, "it holds one week fewer than setting 2", 0, x -> holder(x, 2), x -> x.winner(19));
        EDGES.looks(26, "it holds setting 2 weeks", -1, x -> holder(x, 1), x -> x.winner(19));
    }

    /** An owner with 4 points bids for the last week, which costs 3. */
    private static void bidder(CottageWeeks x, int extra) {
        x.owner(1);
        x.school(19, true);
        x.bid(0, 19, extra);
    }

    private static void holder(CottageWeeks x, int most) {
        x.owner(9);
        x.take(0, 0);
        x.school(19, true);
        x.bid(0, 19, 0);
        x.set(2, most);
    }

    /** Weeks from the lowest one: what is won before is spent and held then. */
    private static void winnerThen() {
        Consumer<CottageWeeks> way = x -> {
            x.set(2, 1);
            Edges.come(x, 9, 9, 9);
            x.school(0, true);
            x.school(18, true);
            x.school(19, true);
            x.bid(0, 0, 2);
            x.bid(0, 18, 5);
            x.bid(1, 18, 4);
            x.bid(0, 19, 9);
            x.bid(1, 19, 8);
            x.bid(2, 19, 0);
        };
        EDGES.looks(26, "the first week", 0, way, x -> x.winner(0));
        EDGES.looks(26, "the first one holds a week then", 1, way, x -> x.winner(18));
        EDGES.looks(26, "both hold a week then", 2, way, x -> x.winner(19));
        CottageWeeks x = Edges.made(way);
        x.settle();
        EDGES.due(17, "the same weeks are won", 0, x.weekOf(0, 2));
        EDGES.due(17, "the same weeks are won", 1, x.weekOf(18, 2));
        EDGES.due(17, "the same weeks are won", 2, x.weekOf(19, 2));
        EDGES.looks(26, "a tie goes by the school weeks won then", 1, y -> {
            Edges.come(y, 9, 1);
            y.school(3, true);
            y.school(4, true);
            y.bid(0, 3, 0);
            y.bid(0, 4, 0);
            y.bid(1, 4, 0);
        }, y -> y.winner(4));
    }

    private static void leastBid() {
        owners(27, (x, o) -> x.leastBid(o, 0));
        weeks(27, (x, w) -> x.leastBid(1, w));
        EDGES.looks(27, "0 without others", 0, x -> {
            x.owner(1);
            x.school(0, true);
        }, x -> x.leastBid(0, 0));
        EDGES.looks(27, "NONE if it is no school week", -1, x -> x.owner(9), x -> x.leastBid(0, 0));
        EDGES.looks(27, "NONE if it is no school week, with bids", -1, x -> {
            Edges.busy(x);
            x.school(10, false);
        }, x -> x.leastBid(0, 10));
        EDGES.looks(27, "NONE if it is held", -1, x -> {
            Edges.busy(x);
            x.settle();
        }, x -> x.leastBid(1, 10));
        EDGES.looks(27, "NONE if it is held by the same", -1, x -> {
            Edges.busy(x);
            x.settle();
        }, x -> x.leastBid(0, 10));
        EDGES.looks(27, "just the points that it costs", 0, x -> dear(x, 4), x -> x.leastBid(0, 19));
        EDGES.looks(27, "a point too few", -1, x -> dear(x, 5), x -> x.leastBid(0, 19));
        EDGES.looks(27, "one week fewer than setting 2", 0, x -> holder(x, 2), x -> x.leastBid(0, 19));
        EDGES.looks(27, "setting 2 weeks are held", -1, x -> holder(x, 1), x -> x.leastBid(0, 19));
        EDGES.looks(27, "in place of an earlier one, that is greater", 0, x -> bidder(x, 1), x -> x.leastBid(0, 19));
        EDGES.looks(27, "in place of an earlier one, that is too dear", 0, x -> bidder(x, 20),
                x -> x.leastBid(0, 19));
        EDGES.looks(27, "earlier bids for other weeks stay", -1, x -> {
            bidder(x, 0);
            x.school(18, true);
            x.bid(0, 18, 1);
        }, x -> x.leastBid(0, 19));
        EDGES.looks(27, "bids for later weeks take nothing", 0, x -> {
            bidder(x, 1);
            x.school(18, true);
        }, x -> x.leastBid(0, 18));
    }

    private static void dear(CottageWeeks x, int cost) {
        x.owner(1);
        x.school(19, true);
        x.cost(19, cost);
    }

    /** Owner 0 with this share bids this extra; owner 1 has a share of 5. */
    private static int leastAgainst(int share, int extra) {
        CottageWeeks x = Edges.house(share, 5);
        x.set(0, 20);
        x.year();
        x.school(7, true);
        x.bid(0, 7, extra);
        return x.leastBid(1, 7);
    }

    private static void leastBidAgainstOthers() {
        for (int extra = 0; extra < 20; extra++) {
            EDGES.due(27, "as much as a smaller share bids: " + extra, extra, leastAgainst(4, extra));
            EDGES.due(27, "more than the same share of a lower one: " + extra, extra + 1, leastAgainst(5, extra));
            EDGES.due(27, "more than a greater share: " + extra, extra + 1, leastAgainst(6, extra));
        }
        EDGES.due(27, "20 against 20 of a smaller share", 20, leastAgainst(4, 20));
        EDGES.due(27, "no 21 against 20 of the same share", -1, leastAgainst(5, 20));
        EDGES.due(27, "no 21 against 20 of a greater share", -1, leastAgainst(6, 20));
        CottageWeeks x = Edges.house(2, 1);
        x.school(7, true);
        x.bid(0, 7, 5);
        EDGES.due(27, "one that has the points for 1, against 5", -1, x.leastBid(1, 7));
        x.bid(0, 7, 0);
        EDGES.due(27, "one that has the points for 1, against 0", 1, x.leastBid(1, 7));
        x.bid(0, 7, 6);
        EDGES.due(27, "against one that has not the points for its bid", 0, x.leastBid(1, 7));
    }

    private static void ifUpkeep() {
        owners(28, (x, o) -> x.ifUpkeep(o, 1));
        EDGES.range(28, "coins: 1 to 999", Check.ARGUMENT, 1, 999, Edges::busy, (x, coins) -> x.ifUpkeep(1, coins));
        EDGES.refused(28, "the owner is told before the coins, too few", Check.BOUNDS, Edges::busy,
                x -> x.ifUpkeep(2, 0));
        EDGES.refused(28, "the owner is told before the coins, too many", Check.BOUNDS, Edges::busy,
                x -> x.ifUpkeep(-1, 1000));
        EDGES.looks(28, "what it would pay", 19, Edges::busy, x -> x.ifUpkeep(0, 50));
        int[][] houses = {{1}, {9, 9, 9, 9, 9, 9}, {1, 2, 3, 4, 5, 6}, {9, 1}, {3, 3, 1}, {7, 5, 7, 5, 9}};
        for (int[] shares : houses) {
            for (int coins = 1; coins <= 999; coins += coins < 60 || coins >= 990 ? 1 : 31) {
                sameAsUpkeep(shares, coins);
            }
        }
    }

    private static void sameAsUpkeep(int[] shares, int coins) {
        CottageWeeks x = Edges.house(shares);
        CottageWeeks y = Edges.house(shares);
        int most = y.upkeep(coins);
        int sum = 0;
        int greatest = 0;
        for (int o = 0; o < shares.length; o++) {
            int part = x.ifUpkeep(o, coins);
            EDGES.due(28, "the part of owner " + o + " of " + coins, y.ownerOf(o, 4), part);
            EDGES.due(20, "the part of owner " + o + " of " + coins, partOf(shares, o, coins), part);
            sum += part;
            greatest = Math.max(greatest, part);
        }
        EDGES.due(20, "all coins are paid: " + coins, coins, sum);
        EDGES.due(20, "the most that one pays of " + coins, greatest, most);
    }

    /** Coins that are left go one by one to whom most was left, of several the lowest. */
    private static int partOf(int[] shares, int o, int coins) {
        int all = 0;
        for (int share : shares) {
            all += share;
        }
        int[] rest = new int[shares.length];
        int left = coins;
        for (int i = 0; i < shares.length; i++) {
            rest[i] = coins * shares[i] % all;
            left -= coins * shares[i] / all;
        }
        int part = coins * shares[o] / all;
        for (; left > 0; left--) {
            int best = 0;
            for (int i = 1; i < shares.length; i++) {
                best = rest[i] > rest[best] ? i : best;
            }
            rest[best] = -1;
            part += best == o ? 1 : 0;
        }
        return part;
    }
}

import java.util.concurrent.Callable;

/** Promises 6 to 32 but 30 (see ScriptEdgesTest), one after the other: ordinary inputs, edges, wrong inputs. */
public final class PromisesTest {
    private static final Check CHECK = new Check();
    private static final int[] FAR = {-1, Integer.MIN_VALUE, Integer.MAX_VALUE};

    public static void main(String[] args) {
        checkAbout();
        checkOwnerOf();
        checkWeekOf();
        checkBidOf();
        checkOfferOf();
        checkOwner();
        checkCost();
        checkSchool();
        checkTake();
        checkRelease();
        checkBid();
        checkSettle();
        checkSettleTies();
        checkOffer();
        checkAccept();
        checkUpkeep();
        checkYear();
        checkSet();
        checkUndo();
        checkWhy();
        checkCould();
        checkWinner();
        checkLeastBid();
        checkIfUpkeep();
        checkRunScript();
        checkScriptGroups();
        checkSaveAndRestore();
        CHECK.end();
    }

    private static CottageWeeks house(int... shares) {
        CottageWeeks x = new CottageWeeks();
        for (int share : shares) {
            x.owner(share);
        }
        return x;
    }

    private static void due(String what, long want, long got) {
        CHECK.due(what, want, got);
    }

    private static void bounds(String what, CottageWeeks x, Callable<Integer> call) {
        throwing(what, Check.BOUNDS, x, call);
    }

    private static void argument(String what, CottageWeeks x, Callable<Integer> call) {
        throwing(what, Check.ARGUMENT, x, call);
    }

    private static void state(String what, CottageWeeks x, Callable<Integer> call) {
        throwing(what, Check.STATE, x, call);
    }

    /** A call that throws changes no number; that it changes nothing at all is looked at by Edges. */
    private static void throwing(String what, String want, CottageWeeks x, Callable<Integer> call) {
        String before = Check.numbers(x);
        CHECK.dueThrow(what, want, call);
        CHECK.due(what + " changes nothing", before, Check.numbers(x));
    }

    private static void checkAbout() {
        CottageWeeks x = house(4, 2);
        due("owners", 2, x.about(0));
        due("given", 24, x.about(3));
        x.take(0, 3);
        x.take(1, 4);
        x.take(1, 4);
        due("spent", 6, x.about(4));
        due("refused", 1, x.about(12));
        due("free", 18, x.about(2));
        x.cost(4, 9);
        x.release(1, 4);
        due("got back", 4, x.about(5));
        due("points", 22, x.about(7));
        x.take(1, 5);
        x.offer(0, 3, 5);
        x.offer(0, 3, 5);
        due("offers", 2, x.about(9));
        x.accept(0);
        x.accept(0);
        due("swaps", 1, x.about(10));
        due("voids", 1, x.about(11));
        due("offers are gone", 0, x.about(9));
        x.upkeep(7);
        x.upkeep(9);
        due("coins", 16, x.about(13));
        x.school(9, true);
        x.bid(0, 9, 1);
        x.bid(1, 9, 1);
        x.bid(1, 9, 2);
        due("bids", 2, x.about(8));
        x.year();
        due("year", 1, x.about(1));
        due("lapsed", 9, x.about(6));
        due("given, spent, got, lapsed add up", x.about(7), x.about(3) - x.about(4) + x.about(5) - x.about(6));
        argument("about -1", x, () -> x.about(-1));
        argument("about 14", x, () -> x.about(14));
        for (int far : FAR) {
            argument("about far", x, () -> x.about(far));
        }
    }

    private static void checkOwnerOf() {
        CottageWeeks x = house(4, 9);
        due("share", 9, x.ownerOf(1, 0));
        due("points", 36, x.ownerOf(1, 1));
        due("no week", -1, x.ownerOf(1, 5));
        x.take(1, 13);
        x.take(1, 8);
        due("weeks", 2, x.ownerOf(1, 2));
        due("lowest week", 8, x.ownerOf(1, 5));
        due("weeks of the other", 0, x.ownerOf(0, 2));
        x.school(0, true);
        x.school(19, true);
        x.bid(1, 0, 5);
        x.bid(1, 19, 5);
        due("bids", 2, x.ownerOf(1, 6));
        x.settle();
        due("won", 1, x.ownerOf(1, 3));
        due("lowest week", 0, x.ownerOf(1, 5));
        due("bids are gone", 0, x.ownerOf(1, 6));
        due("points", 36 - 6 - 8, x.ownerOf(1, 1));
        x.upkeep(13);
        x.upkeep(13);
        due("coins", 18, x.ownerOf(1, 4));
        bounds("ownerOf 2", x, () -> x.ownerOf(2, 0));
        bounds("ownerOf -1", x, () -> x.ownerOf(-1, 0));
        bounds("ownerOf 6", x, () -> x.ownerOf(6, 0));
        bounds("ownerOf 2, 7", x, () -> x.ownerOf(2, 7));
        argument("ownerOf 0, 7", x, () -> x.ownerOf(0, 7));
        argument("ownerOf 0, -1", x, () -> x.ownerOf(0, -1));
        CottageWeeks y = house();
        bounds("ownerOf without owners", y, () -> y.ownerOf(0, 0));
    }

    private static void checkWeekOf() {
        CottageWeeks x = house(4, 9);
        x.cost(19, 7);
        x.school(19, true);
        due("cost", 7, x.weekOf(19, 0));
        due("school", 1, x.weekOf(19, 1));
        x.bid(0, 19, 0);
        due("bids", 1, x.weekOf(19, 3));
        due("greatest extra 0", 0, x.weekOf(19, 4));
        x.bid(1, 19, 8);
        x.bid(0, 19, 3);
        due("bids", 2, x.weekOf(19, 3));
        due("greatest extra", 8, x.weekOf(19, 4));
        due("other bids", 0, x.weekOf(18, 3));
        due("no extra", -1, x.weekOf(18, 4));
        x.settle();
        due("holder", 1, x.weekOf(19, 2));
        bounds("weekOf 20", x, () -> x.weekOf(20, 0));
        bounds("weekOf -1", x, () -> x.weekOf(-1, 0));
        bounds("weekOf 20, 5", x, () -> x.weekOf(20, 5));
        argument("weekOf 0, 5", x, () -> x.weekOf(0, 5));
        argument("weekOf 0, -1", x, () -> x.weekOf(0, -1));
    }

    private static void checkBidOf() {
        CottageWeeks x = house(4, 9);
        x.school(2, true);
        due("no bid", -1, x.bidOf(1, 2));
        x.bid(1, 2, 0);
        due("bid", 0, x.bidOf(1, 2));
        due("no bid of the other", -1, x.bidOf(0, 2));
        due("no bid for the other", -1, x.bidOf(1, 3));
        x.bid(1, 2, 20);
        due("new bid", 20, x.bidOf(1, 2));
        bounds("bidOf 2, 0", x, () -> x.bidOf(2, 0));
        bounds("bidOf 0, 20", x, () -> x.bidOf(0, 20));
        bounds("bidOf -1, 0", x, () -> x.bidOf(-1, 0));
        bounds("bidOf 0, -1", x, () -> x.bidOf(0, -1));
    }

    private static void checkOfferOf() {
        CottageWeeks x = house(4, 9, 2);
        x.take(0, 1);
        x.take(1, 2);
        x.take(2, 3);
        x.offer(1, 2, 3);
        x.offer(0, 1, 2);
        due("who", 1, x.offerOf(0, 0));
        due("offered", 2, x.offerOf(0, 1));
        due("wanted", 3, x.offerOf(0, 2));
        due("not void", 0, x.offerOf(0, 3));
        due("who", 0, x.offerOf(1, 0));
        due("offered", 1, x.offerOf(1, 1));
        due("wanted", 2, x.offerOf(1, 2));
        x.release(2, 3);
        due("wanted is free: void", 1, x.offerOf(0, 3));
        x.take(0, 3);
        due("another holds it: not void", 0, x.offerOf(0, 3));
        x.release(0, 3);
        x.take(1, 3);
        due("the same holds it: void", 1, x.offerOf(0, 3));
        x.release(0, 1);
        due("offered is free: void", 1, x.offerOf(1, 3));
        x.take(1, 1);
        due("offered is another's: void", 1, x.offerOf(1, 3));
        bounds("offerOf 2", x, () -> x.offerOf(2, 0));
        bounds("offerOf -1", x, () -> x.offerOf(-1, 0));
        bounds("offerOf 2, 4", x, () -> x.offerOf(2, 4));
        bounds("offerOf 8", x, () -> x.offerOf(8, 0));
        argument("offerOf 0, 4", x, () -> x.offerOf(0, 4));
        argument("offerOf 0, -1", x, () -> x.offerOf(0, -1));
    }

    private static void checkOwner() {
        CottageWeeks x = house();
        argument("owner 0", x, () -> x.owner(0));
        argument("owner 10", x, () -> x.owner(10));
        for (int far : FAR) {
            argument("owner far", x, () -> x.owner(far));
        }
        due("owner 9", 0, x.owner(9));
        due("owner 1", 1, x.owner(1));
        x.set(0, 20);
        due("owner 5", 2, x.owner(5));
        due("points by the setting then", 100, x.ownerOf(2, 1));
        due("points", 4, x.ownerOf(1, 1));
        due("given", 140, x.about(3));
        x.owner(2);
        x.owner(2);
        due("the sixth", 5, x.owner(2));
        state("the seventh", x, () -> x.owner(2));
        argument("the seventh with 0", x, () -> x.owner(0));
        due("undo", 7 - 1, x.undo());
    }

    private static void checkCost() {
        CottageWeeks x = house(2);
        due("cost", 3, x.cost(0, 9));
        due("cost", 9, x.cost(0, 1));
        due("cost now", 1, x.weekOf(0, 0));
        due("cost 19", 3, x.cost(19, 8));
        x.take(0, 0);
        x.cost(0, 9);
        due("who holds it pays nothing", 7, x.ownerOf(0, 1));
        due("it is held", 0, x.weekOf(0, 2));
        bounds("cost 20", x, () -> x.cost(20, 1));
        bounds("cost -1", x, () -> x.cost(-1, 1));
        bounds("cost 20, 0", x, () -> x.cost(20, 0));
        argument("cost 0, 0", x, () -> x.cost(0, 0));
        argument("cost 0, 10", x, () -> x.cost(0, 10));
    }

    private static void checkSchool() {
        CottageWeeks x = house(2);
        due("school", 1, x.school(0, true));
        due("school twice", 1, x.school(0, true));
        due("school 19", 2, x.school(19, true));
        x.bid(0, 19, 2);
        due("no school", 1, x.school(19, false));
        due("bids stay", 2, x.bidOf(0, 19));
        due("it could be taken", 0, x.take(0, 19));
        due("school", 2, x.school(19, true));
        due("it is held on", 0, x.weekOf(19, 2));
        due("no school", 1, x.school(0, false));
        bounds("school 20", x, () -> x.school(20, true));
        bounds("school -1", x, () -> x.school(-1, false));
    }

    private static void checkTake() {
        CottageWeeks x = house(2, 3);
        due("take", 0, x.take(0, 5));
        due("spent", 5, x.ownerOf(0, 1));
        due("held", 0, x.weekOf(5, 2));
        due("held by another", 2, x.take(1, 5));
        due("held by itself", 2, x.take(0, 5));
        x.school(6, true);
        due("school", 1, x.take(0, 6));
        x.school(5, true);
        due("school before held", 1, x.take(1, 5));
        x.cost(7, 5);
        x.cost(8, 6);
        due("too dear", 4, x.take(0, 8));
        due("all points", 0, x.take(0, 7));
        due("no points left", 0, x.ownerOf(0, 1));
        x.set(2, 2);
        due("most held before points", 3, x.take(0, 9));
        due("held before most held", 2, x.take(0, 7));
        x.set(2, 1);
        due("more than most", 3, x.take(0, 9));
        due("refused", 8, x.about(12));
        bounds("take 2, 0", x, () -> x.take(2, 0));
        bounds("take 0, 20", x, () -> x.take(0, 20));
        bounds("take -1, 0", x, () -> x.take(-1, 0));
        bounds("take 0, -1", x, () -> x.take(0, -1));
    }

    private static void checkRelease() {
        CottageWeeks x = house(9, 9);
        for (int w = 0; w < 2; w++) {
            x.take(0, w);
        }
        due("half of 3", 1, x.release(0, 0));
        due("points", 31, x.ownerOf(0, 1));
        due("free", -1, x.weekOf(0, 2));
        x.cost(1, 9);
        due("half of 9, what it costs then", 4, x.release(0, 1));
        x.cost(1, 1);
        x.take(1, 1);
        due("half of 1", 0, x.release(1, 1));
        due("got back", 5, x.about(5));
        state("release of a free week", x, () -> x.release(1, 1));
        x.take(1, 1);
        state("release of another's week", x, () -> x.release(0, 1));
        bounds("release 2, 0", x, () -> x.release(2, 0));
        bounds("release 0, 20", x, () -> x.release(0, 20));
        bounds("release -1, 1", x, () -> x.release(-1, 1));
        bounds("release 0, -1", x, () -> x.release(0, -1));
    }

    private static void checkBid() {
        CottageWeeks x = house(2, 2);
        x.school(4, true);
        due("bid", 1, x.bid(0, 4, 20));
        due("bid of another", 2, x.bid(1, 4, 0));
        due("bid in place of an earlier one", 2, x.bid(0, 4, 1));
        due("extra", 1, x.bidOf(0, 4));
        state("no school week", x, () -> x.bid(0, 5, 0));
        argument("extra 21", x, () -> x.bid(0, 4, 21));
        argument("extra -1", x, () -> x.bid(0, 4, -1));
        argument("extra 21 for no school week", x, () -> x.bid(0, 5, 21));
        bounds("bid 2, 4", x, () -> x.bid(2, 4, 21));
        bounds("bid 0, 20", x, () -> x.bid(0, 20, 21));
        bounds("bid -1", x, () -> x.bid(-1, 4, 0));
        bounds("bid 0, -1", x, () -> x.bid(0, -1, 0));
        x.settle();
        state("held", x, () -> x.bid(1, 4, 0));
    }

    private static void checkSettle() {
        CottageWeeks x = house(2, 3);
        due("nothing to settle", 0, x.settle());
        for (int w = 3; w < 8; w++) {
            x.school(w, true);
        }
        x.bid(0, 3, 5);
        x.bid(1, 3, 4);
        x.bid(0, 4, 1);
        x.bid(1, 4, 0);
        x.bid(1, 5, 0);
        x.bid(1, 6, 3);
        x.school(5, false);
        due("settle", 3, x.settle());
        due("all 8 points", 0, x.weekOf(3, 2));
        due("no points left", 0, x.ownerOf(0, 1));
        due("the other wins what is left", 1, x.weekOf(4, 2));
        due("no school week is won", -1, x.weekOf(5, 2));
        due("won", 1, x.weekOf(6, 2));
        due("points", 12 - 3 - 6, x.ownerOf(1, 1));
        due("spent", 17, x.about(4));
        due("won 2", 2, x.ownerOf(1, 3));
        due("all bids are gone", 0, x.about(8));
        CottageWeeks y = house(9, 1);
        y.set(2, 1);
        for (int w = 0; w < 3; w++) {
            y.school(w, true);
            y.bid(0, w, 2);
        }
        y.bid(1, 1, 1);
        y.bid(1, 0, 1);
        due("most held then", 2, y.settle());
        due("first", 0, y.weekOf(0, 2));
        due("second", 1, y.weekOf(1, 2));
        due("third", -1, y.weekOf(2, 2));
        CottageWeeks z = house(9, 9);
        z.school(0, true);
        z.bid(0, 0, 9);
        z.school(0, false);
        z.take(1, 0);
        z.school(0, true);
        due("held weeks are not won", 0, z.settle());
        due("it is held on", 1, z.weekOf(0, 2));
        due("refused nowhere", 0, z.about(12));
    }

    private static void checkSettleTies() {
        CottageWeeks x = house(2, 5, 5, 9);
        for (int w = 0; w < 4; w++) {
            x.school(w, true);
        }
        x.bid(3, 0, 0);
        x.settle();
        for (int o = 0; o < 4; o++) {
            x.bid(o, 1, 1);
            x.bid(o, 2, 1);
            x.bid(o, 3, 1);
        }
        due("settle", 3, x.settle());
        due("fewest won, then the share, then the lowest", 1, x.weekOf(1, 2));
        due("won so far counts at once", 2, x.weekOf(2, 2));
        due("fewest won before the share", 0, x.weekOf(3, 2));
        x.year();
        x.bid(0, 0, 0);
        x.bid(1, 0, 0);
        x.bid(2, 0, 0);
        x.bid(3, 0, 1);
        x.settle();
        due("the extra before all", 3, x.weekOf(0, 2));
        due("won in all years", 2, x.ownerOf(3, 3));
    }

    private static void checkOffer() {
        CottageWeeks x = house(9, 9);
        x.take(0, 0);
        x.take(0, 1);
        x.take(1, 19);
        for (int k = 0; k < 7; k++) {
            due("offer", k, x.offer(0, 0, 19));
        }
        state("does not hold the first", x, () -> x.offer(0, 2, 19));
        state("the first is another's", x, () -> x.offer(1, 0, 19));
        state("nobody holds the other", x, () -> x.offer(0, 0, 2));
        state("the same holds the other", x, () -> x.offer(0, 0, 1));
        state("the same week", x, () -> x.offer(0, 0, 0));
        due("the eighth", 7, x.offer(1, 19, 1));
        state("the ninth", x, () -> x.offer(0, 0, 19));
        bounds("offer 2", x, () -> x.offer(2, 0, 19));
        bounds("offer -1", x, () -> x.offer(-1, 0, 19));
        bounds("offer 0, 20", x, () -> x.offer(0, 20, 19));
        bounds("offer 0, -1", x, () -> x.offer(0, -1, 19));
        bounds("offer 0, 0, 20", x, () -> x.offer(0, 0, 20));
        bounds("offer 0, 0, -1", x, () -> x.offer(0, 0, -1));
        bounds("offer 0, 5, 20: the week is first", x, () -> x.offer(0, 5, 20));
    }

    private static void checkAccept() {
        CottageWeeks x = house(9, 9, 9);
        x.take(0, 0);
        x.take(1, 1);
        x.take(2, 2);
        x.offer(0, 0, 1);
        x.offer(1, 1, 2);
        x.offer(2, 2, 0);
        due("accept", 1, x.accept(1));
        due("swapped", 2, x.weekOf(1, 2));
        due("swapped", 1, x.weekOf(2, 2));
        due("offers", 2, x.about(9));
        due("the ones behind move up", 2, x.offerOf(1, 0));
        due("and their weeks", 2, x.offerOf(1, 1));
        due("and their others", 0, x.offerOf(1, 2));
        due("those before stay", 0, x.offerOf(0, 0));
        due("void", 0, x.accept(1));
        due("nothing is swapped", 0, x.weekOf(0, 2));
        due("nothing is swapped", 1, x.weekOf(2, 2));
        due("voids", 1, x.about(11));
        due("any other owner", 1, x.accept(0));
        due("swapped", 2, x.weekOf(0, 2));
        due("swapped", 0, x.weekOf(1, 2));
        due("swaps", 2, x.about(10));
        due("points are kept", 33, x.ownerOf(0, 1));
        bounds("accept 0", x, () -> x.accept(0));
        bounds("accept -1", x, () -> x.accept(-1));
        bounds("accept 8", x, () -> x.accept(8));
        x.offer(0, 1, 2);
        x.release(1, 2);
        due("the other week is free: void", 0, x.accept(0));
        x.take(1, 2);
        x.offer(0, 1, 2);
        x.release(1, 2);
        x.take(0, 2);
        due("the same holds both: void", 0, x.accept(0));
        due("voids", 3, x.about(11));
        CottageWeeks y = house(9, 9);
        y.take(0, 0);
        y.take(1, 1);
        for (int k = 0; k < 8; k++) {
            y.offer(k % 2, k % 2, 1 - k % 2);
        }
        due("the last of eight", 1, y.accept(7));
        due("seven are left", 7, y.about(9));
        due("the first of seven", 0, y.accept(0));
        due("its next one", 1, y.offerOf(0, 0));
        due("the last one", 0, y.offerOf(5, 0));
    }

    private static void checkUpkeep() {
        CottageWeeks none = house();
        state("upkeep without owners", none, () -> none.upkeep(1));
        argument("upkeep 0 without owners", none, () -> none.upkeep(0));
        CottageWeeks x = house(3, 1, 6);
        due("upkeep 100", 60, x.upkeep(100));
        due("part", 30, x.ownerOf(0, 4));
        due("part", 10, x.ownerOf(1, 4));
        due("upkeep 1", 1, x.upkeep(1));
        due("most was left", 61, x.ownerOf(2, 4));
        due("upkeep 2", 1, x.upkeep(2));
        due("0.6, 0.2 and 1.2 of 2", 31, x.ownerOf(0, 4));
        due("0.6, 0.2 and 1.2 of 2", 62, x.ownerOf(2, 4));
        due("upkeep 999", 599, x.upkeep(999));
        due("299.7", 31 + 300, x.ownerOf(0, 4));
        due("99.9", 10 + 100, x.ownerOf(1, 4));
        due("599.4", 62 + 599, x.ownerOf(2, 4));
        due("coins", 1102, x.about(13));
        CottageWeeks y = house(2, 2, 2, 2);
        due("upkeep 6", 2, y.upkeep(6));
        due("of several the lowest", 2, y.ownerOf(1, 4));
        due("not the higher", 1, y.ownerOf(2, 4));
        argument("upkeep 0", x, () -> x.upkeep(0));
        argument("upkeep 1000", x, () -> x.upkeep(1000));
        argument("upkeep -1", x, () -> x.upkeep(-1));
    }

    private static void checkYear() {
        CottageWeeks x = house(2, 3);
        x.take(0, 0);
        x.school(9, true);
        x.cost(8, 4);
        x.take(1, 1);
        x.bid(1, 9, 2);
        x.offer(0, 0, 1);
        x.cost(0, 1);
        due("lapse", 4, x.year());
        due("year", 1, x.about(1));
        due("free", 20, x.about(2));
        due("no bids", 0, x.about(8));
        due("no bid", -1, x.bidOf(1, 9));
        due("no offers", 0, x.about(9));
        due("5 carried", 13, x.ownerOf(0, 1));
        due("5 of 9 carried", 17, x.ownerOf(1, 1));
        due("lapsed", 4, x.about(6));
        due("given", 40, x.about(3));
        due("school weeks stay", 1, x.weekOf(9, 1));
        due("costs stay", 4, x.weekOf(8, 0));
        x.set(1, 0);
        x.set(0, 1);
        due("all lapse", 30, x.year());
        due("new points", 2, x.ownerOf(0, 1));
        x.set(1, 20);
        due("none lapse", 0, x.year());
        due("carried", 4, x.ownerOf(0, 1));
        due("year", 3, x.about(1));
        CottageWeeks y = house();
        due("year without owners", 0, y.year());
        due("year", 1, y.about(1));
    }

    private static void checkSet() {
        int[] least = {1, 0, 1};
        int[] most = {20, 20, 10};
        int[] first = {4, 5, 3};
        CottageWeeks x = house(1);
        for (int what = 0; what < 3; what++) {
            int s = what;
            argument("set too small", x, () -> x.set(s, least[s] - 1));
            argument("set too great", x, () -> x.set(s, most[s] + 1));
            due("set least", first[what], x.set(what, least[what]));
            due("set most", least[what], x.set(what, most[what]));
            due("set first", most[what], x.set(what, first[what]));
        }
        argument("set 3", x, () -> x.set(3, 5));
        argument("set -1", x, () -> x.set(-1, 5));
        for (int far : FAR) {
            argument("set far", x, () -> x.set(far, 5));
            argument("set far", x, () -> x.set(0, far));
        }
        x.set(2, 10);
        x.owner(9);
        for (int w = 0; w < 10; w++) {
            x.cost(w, 1);
            due("ten weeks", 0, x.take(1, w));
        }
        due("not eleven", 3, x.take(1, 10));
    }

    private static void checkUndo() {
        CottageWeeks x = house();
        state("undo of nothing", x, x::undo);
        for (int i = 0; i < 20; i++) {
            act(x, i);
        }
        for (int left = 13; left >= 0; left--) {
            due("undo", left, x.undo());
            CHECK.due("state " + left, Check.shown(acted(left + 6, 0)), Check.shown(acted(20, 14 - left)));
        }
        state("only 14 are remembered", x, x::undo);
        act(x, 0);
        due("undo after undo", 0, x.undo());
        x.set(2, 7);
        x.undo();
        due("settings are undone", 3, x.set(2, 3));
        due("a set to the same is an action", 0, x.undo());
        x.why(0, 0);
        x.could(0);
        x.save(0);
        state("only actions are remembered", x, x::undo);
        x.settle();
        x.settle();
        due("an action without a change", 1, x.undo());
        due("an action without a change", 0, x.undo());
    }

    private static CottageWeeks acted(int times, int undone) {
        CottageWeeks x = house();
        for (int i = 0; i < times; i++) {
            act(x, i);
        }
        for (int i = 0; i < undone; i++) {
            x.undo();
        }
        return x;
    }

    private static void act(CottageWeeks x, int i) {
        switch (i) {
            case 0: x.owner(5); break;
            case 1: x.owner(6); break;
            case 2: x.cost(3, 2); break;
            case 3: x.school(4, true); break;
            case 4: x.take(0, 3); break;
            case 5: x.take(1, 3); break;
            case 6: x.bid(0, 4, 7); break;
            case 7: x.bid(1, 4, 7); break;
            case 8: x.settle(); break;
            case 9: x.take(1, 7); break;
            case 10: x.take(1, 8); break;
            case 11: x.release(1, 7); break;
            case 12: x.offer(1, 8, 3); break;
            case 13: x.offer(0, 3, 8); break;
            case 14: x.accept(1); break;
            case 15: x.upkeep(999); break;
            case 16: x.set(2, 5); break;
            case 17: x.year(); break;
            case 18: x.take(0, 7); x.undo(); x.take(0, 7); break;
            default: x.take(1, 11); break;
        }
    }

    private static void checkWhy() {
        CottageWeeks x = house(2, 9);
        x.take(0, 0);
        x.take(0, 1);
        x.cost(2, 3);
        x.school(3, true);
        due("no points", 4, x.why(0, 2));
        due("can", 0, x.why(1, 2));
        due("held", 2, x.why(0, 0));
        due("held", 2, x.why(1, 0));
        due("school", 1, x.why(1, 3));
        x.set(2, 2);
        due("most held", 3, x.why(0, 2));
        x.set(2, 1);
        due("more than most held", 3, x.why(0, 2));
        x.school(0, true);
        due("school first", 1, x.why(0, 0));
        due("refused nowhere", 0, x.about(12));
        x.cost(2, 9);
        due("dear", 0, x.why(1, 2));
        bounds("why 2, 0", x, () -> x.why(2, 0));
        bounds("why 0, 20", x, () -> x.why(0, 20));
        bounds("why -1, 0", x, () -> x.why(-1, 0));
        bounds("why 0, -1", x, () -> x.why(0, -1));
    }

    private static void could(String what, int want, CottageWeeks x) {
        due(what + " by moving", want, x.could(0));
        due(what + " by sets", want, x.could(1));
    }

    private static void checkCould() {
        CottageWeeks x = house();
        could("no owners", 0, x);
        for (int share = 1; share <= 6; share++) {
            x.owner(share);
            could("owners", share, x);
        }
        for (int w = 0; w < 18; w++) {
            x.school(w, true);
        }
        could("two weeks", 2, x);
        x.cost(18, 9);
        x.cost(19, 9);
        x.set(2, 1);
        could("two dear weeks", 2, x);
        x.school(18, true);
        could("one week", 1, x);
        x.school(19, true);
        could("no week", 0, x);
        CottageWeeks y = house(1, 2, 1);
        for (int w = 3; w < 20; w++) {
            y.school(w, true);
        }
        y.cost(0, 4);
        y.cost(1, 8);
        y.cost(2, 9);
        could("two that must be moved", 2, y);
        y.cost(2, 4);
        could("three that must be moved", 3, y);
        y.take(1, 0);
        could("held", 1, y);
        argument("could 2", x, () -> x.could(2));
        argument("could -1", x, () -> x.could(-1));
    }

    private static void checkWinner() {
        CottageWeeks x = house(2, 3);
        x.school(0, true);
        x.school(1, true);
        due("no bids", -1, x.winner(0));
        x.bid(0, 0, 4);
        x.bid(1, 0, 3);
        x.bid(0, 1, 2);
        x.bid(1, 1, 1);
        String before = Check.shown(x);
        due("the greatest extra", 0, x.winner(0));
        due("what is left behind the first", 1, x.winner(1));
        due("no school week", -1, x.winner(2));
        CHECK.due("winner changes nothing", before, Check.shown(x));
        x.bid(1, 0, 5);
        due("the greater extra", 1, x.winner(0));
        due("then the other", 0, x.winner(1));
        x.settle();
        due("held", -1, x.winner(0));
        bounds("winner 20", x, () -> x.winner(20));
        bounds("winner -1", x, () -> x.winner(-1));
    }

    private static void checkLeastBid() {
        CottageWeeks x = house(2, 3, 6);
        x.school(0, true);
        x.school(1, true);
        due("alone", 0, x.leastBid(0, 1));
        due("no school week", -1, x.leastBid(0, 2));
        x.bid(1, 1, 2);
        due("over the greater share", 3, x.leastBid(0, 1));
        due("as much, by the share", 2, x.leastBid(2, 1));
        due("its own bid does not count", 0, x.leastBid(1, 1));
        x.bid(0, 0, 3);
        due("points go for the week before", -1, x.leastBid(0, 1));
        due("its own bid for the other stays", 3, x.bidOf(0, 0));
        x.bid(2, 1, 20);
        due("nobody wins over 20 with fewer points", -1, x.leastBid(1, 1));
        x.bid(0, 0, 5);
        CottageWeeks y = house(9, 9);
        y.school(5, true);
        y.bid(0, 5, 20);
        due("20 against 20 of the lower", -1, y.leastBid(1, 5));
        CottageWeeks z = house(8, 9);
        z.school(5, true);
        z.bid(0, 5, 20);
        due("20 against 20 of a lesser share", 20, z.leastBid(1, 5));
        due("no bid is left behind", -1, z.bidOf(1, 5));
        z.settle();
        due("held", -1, z.leastBid(0, 5));
        CottageWeeks p = house(1);
        p.school(5, true);
        p.cost(5, 5);
        due("too dear", -1, p.leastBid(0, 5));
        bounds("leastBid 3, 0", x, () -> x.leastBid(3, 0));
        bounds("leastBid 0, 20", x, () -> x.leastBid(0, 20));
        bounds("leastBid -1, 0", x, () -> x.leastBid(-1, 0));
        bounds("leastBid 0, -1", x, () -> x.leastBid(0, -1));
    }

    private static void checkIfUpkeep() {
        CottageWeeks x = house(3, 1, 6);
        due("of 100", 30, x.ifUpkeep(0, 100));
        due("of 999", 300, x.ifUpkeep(0, 999));
        due("of 999", 100, x.ifUpkeep(1, 999));
        due("of 999", 599, x.ifUpkeep(2, 999));
        due("of 1", 0, x.ifUpkeep(0, 1));
        due("of 1", 1, x.ifUpkeep(2, 1));
        due("nothing is paid", 0, x.about(13));
        due("nothing is paid", 0, x.ownerOf(0, 4));
        bounds("ifUpkeep 3", x, () -> x.ifUpkeep(3, 1));
        bounds("ifUpkeep 3, 0", x, () -> x.ifUpkeep(3, 0));
        bounds("ifUpkeep -1", x, () -> x.ifUpkeep(-1, 1));
        argument("ifUpkeep 0, 0", x, () -> x.ifUpkeep(0, 0));
        argument("ifUpkeep 0, 1000", x, () -> x.ifUpkeep(0, 1000));
        for (int coins = 1; coins <= 999; coins += 13) {
            due("all coins are paid", coins, x.ifUpkeep(0, coins) + x.ifUpkeep(1, coins) + x.ifUpkeep(2, coins));
        }
    }

    private static void checkRunScript() {
        CottageWeeks x = house(2, 3);
        x.take(0, 0);
        x.take(1, 1);
        String before = Check.numbers(x);
        due("take, release, take", -1, x.runScript(3, 100200_400200_110200L));
        due("take twice", 1, x.runScript(2, 100200_110200L));
        due("zeros before it", 0, x.runScript(2, 100200L));
        due("the third fails", 2, x.runScript(3, 700000_100000_110000L));
        due("offer and accept", -1, x.runScript(3, 500001_600000_900100L));
        due("accept a second time", 2, x.runScript(3, 500001_600000_600000L));
        due("accept a void one", 2, x.runScript(3, 500001_400000_600000L));
        due("points left", -1, x.runScript(1, 800005L));
        due("points too few", 0, x.runScript(1, 800006L));
        due("0 is no command", 0, x.runScript(1, 0));
        CHECK.due("a script changes nothing", before, Check.numbers(x));
        due("a script is no action", 3, x.undo());
        argument("0 commands", x, () -> x.runScript(0, 0));
        argument("4 commands", x, () -> x.runScript(4, 0));
        argument("-1 commands", x, () -> x.runScript(-1, 0));
        argument("negative", x, () -> x.runScript(1, -1));
        argument("least", x, () -> x.runScript(3, Long.MIN_VALUE));
        argument("7 digits", x, () -> x.runScript(1, 1000000L));
        argument("13 digits", x, () -> x.runScript(2, 1000000_000000L));
        argument("19 digits", x, () -> x.runScript(3, 1000000_000000_000000L));
        argument("most", x, () -> x.runScript(3, Long.MAX_VALUE));
        due("6 digits", 0, x.runScript(1, 999999L));
        due("12 digits", 0, x.runScript(2, 999999_999999L));
        due("18 digits", 0, x.runScript(3, 999999_999999_999999L));
    }

    private static void script(CottageWeeks x, int command, boolean succeeds) {
        due("command " + command, succeeds ? -1 : 0, x.runScript(1, command));
        due("second command " + command, succeeds ? -1 : 1, x.runScript(2, 800000_000000L + command));
    }

    private static void checkScriptGroups() {
        CottageWeeks x = house(2, 3);
        x.take(0, 0);
        x.take(1, 1);
        x.offer(0, 0, 1);
        x.offer(0, 0, 1);
        x.school(10, true);
        x.school(11, true);
        x.bid(0, 10, 0);
        x.bid(1, 11, 0);
        script(x, 100200, true);
        script(x, 100201, false);
        script(x, 100210, false);
        script(x, 102000, false);
        script(x, 109900, false);
        script(x, 120200, false);
        script(x, 101000, false);
        script(x, 201020, true);
        script(x, 201021, false);
        script(x, 211100, true);
        script(x, 221000, false);
        script(x, 202000, false);
        script(x, 200200, false);
        script(x, 300000, true);
        script(x, 300002, true);
        script(x, 300003, false);
        script(x, 300010, false);
        script(x, 300100, false);
        script(x, 301000, false);
        script(x, 310000, false);
        script(x, 400000, true);
        script(x, 400001, false);
        script(x, 400010, false);
        script(x, 410000, false);
        script(x, 420000, false);
        script(x, 410100, true);
        script(x, 402000, false);
        script(x, 500001, true);
        script(x, 510100, true);
        script(x, 500002, false);
        script(x, 500020, false);
        script(x, 502001, false);
        script(x, 520001, false);
        script(x, 600000, true);
        script(x, 610000, true);
        script(x, 620000, false);
        script(x, 690000, false);
        script(x, 600001, false);
        script(x, 600010, false);
        script(x, 600100, false);
        script(x, 601000, false);
        script(x, 700000, true);
        script(x, 700001, false);
        script(x, 700010, false);
        script(x, 700100, false);
        script(x, 701000, false);
        script(x, 710000, false);
        script(x, 800000, true);
        script(x, 800005, true);
        script(x, 800006, false);
        script(x, 810009, true);
        script(x, 810010, false);
        script(x, 820000, false);
        script(x, 800100, false);
        script(x, 801000, false);
        script(x, 900000, true);
        script(x, 910100, true);
        script(x, 900100, false);
        script(x, 900200, false);
        script(x, 900001, false);
        script(x, 900010, false);
        script(x, 920000, false);
        script(x, 902000, false);
        script(x, 500, false);
    }

    private static void checkSaveAndRestore() {
        String first = Check.shown(saved(1));
        String second = Check.shown(saved(2));
        CottageWeeks x = saved(2);
        x.take(0, 0);
        due("restore", 1, x.restore(0));
        CHECK.due("state of slot 0", first, Check.shown(x));
        state("states are forgotten", x, x::undo);
        due("setting", 8, x.set(2, 4));
        x.take(0, 9);
        due("restore again", 1, x.restore(0));
        CHECK.due("the slot keeps it", first, Check.shown(x));
        x = saved(2);
        x.restore(0);
        due("restore 1", 2, x.restore(1));
        CHECK.due("state of slot 1", second, Check.shown(x));
        checkSlots();
    }

    /** One slot is saved in, or both. */
    private static CottageWeeks saved(int slots) {
        CottageWeeks x = house(2);
        x.year();
        x.set(2, 8);
        due("save", 1, x.save(0));
        if (slots == 2) {
            x.owner(5);
            x.year();
            x.set(2, 9);
            due("save", 2, x.save(1));
        }
        return x;
    }

    private static void checkSlots() {
        CottageWeeks x = saved(2);
        x.restore(1);
        due("setting", 9, x.set(2, 4));
        due("undo goes on", 0, x.undo());
        due("save over it", 2, x.save(0));
        x.year();
        due("restore 0", 2, x.restore(0));
        bounds("save 2", x, () -> x.save(2));
        bounds("save -1", x, () -> x.save(-1));
        bounds("restore 2", x, () -> x.restore(2));
        bounds("restore -1", x, () -> x.restore(-1));
        CottageWeeks y = house(1);
        y.save(1);
        state("only slot 1 is saved", y, () -> y.restore(0));
        due("save is no action", 0, y.undo());
        due("undo keeps the slots", 0, y.restore(1));
        due("owners", 1, y.about(0));
    }
}

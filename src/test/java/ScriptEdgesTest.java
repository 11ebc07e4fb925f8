import java.math.BigInteger;
import java.util.function.Consumer;
import java.util.function.LongPredicate;

/** The boundary sentences of promises 29 to 32: scripts, simulations, save slots. */
public final class ScriptEdgesTest {
    private static final Edges EDGES = new Edges();
    private static final long TIMES = 6364136223846793005L;
    private static final long PLUS = 1442695040888963407L;
    private static final BigInteger WRAP = BigInteger.ONE.shiftLeft(64);
    private static final long BACK = BigInteger.valueOf(TIMES).modInverse(WRAP).longValue();

    public static void main(String[] args) {
        scriptArguments();
        scriptOrder();
        scriptTakeAndBid();
        scriptSettle();
        scriptReleaseAndSwap();
        scriptYearAndTests();
        scriptOtherGroups();
        simulateArguments();
        simulateWraps();
        simulateOwnerAndCost();
        simulateSchoolAndTake();
        simulateBids();
        simulateSwaps();
        simulateUpkeepAndYear();
        simulateMany();
        save();
        restore();
        wholeStates();
        restoreForgets();
        EDGES.end();
    }

    private static void scriptArguments() {
        EDGES.range(29, "n: 1 to 3", Check.ARGUMENT, 1, 3, Edges::busy, (x, n) -> x.runScript(n, 700000));
        EDGES.refused(29, "n: 0, with a script of 0 digits", Check.ARGUMENT, Edges::busy, x -> x.runScript(0, 0));
        EDGES.refused(29, "n: 4, with a script of 0", Check.ARGUMENT, Edges::busy, x -> x.runScript(4, 0));
        long[] least = {1000000L, 1000000000000L, 1000000000000000000L};
        for (int n = 1; n <= 3; n++) {
            int commands = n;
            long first = least[n - 1];
            EDGES.refused(29, "more than " + 6 * n + " digits", Check.ARGUMENT, Edges::busy,
                    x -> x.runScript(commands, first));
            EDGES.looks(29, 6 * n + " digits", 0, Edges::busy, x -> x.runScript(commands, first - 1));
            EDGES.looks(29, "a script of 0", 0, Edges::busy, x -> x.runScript(commands, 0));
            EDGES.refused(29, "a negative one", Check.ARGUMENT, Edges::busy, x -> x.runScript(commands, -1));
            EDGES.refused(29, "the least", Check.ARGUMENT, Edges::busy, x -> x.runScript(commands, Long.MIN_VALUE));
            EDGES.refused(29, "the most", Check.ARGUMENT, Edges::busy, x -> x.runScript(commands, Long.MAX_VALUE));
        }
    }

    private static void scriptOrder() {
        EDGES.looks(29, "the highest group is the first", 0, Edges::busy, x -> x.runScript(2, 100200_700000L));
        EDGES.looks(29, "the lowest group is the last", -1, Edges::busy, x -> x.runScript(2, 700000_100200L));
        EDGES.looks(29, "zeros before it make a group that fails", 0, Edges::busy, x -> x.runScript(3, 700000_700000L));
        EDGES.looks(29, "the first of three fails", 0, Edges::busy, x -> x.runScript(3, 100200_700000_700000L));
        EDGES.looks(29, "the second of three fails", 1, Edges::busy, x -> x.runScript(3, 700000_000000_700000L));
        EDGES.looks(29, "the third of three fails", 2, Edges::busy, x -> x.runScript(3, 700000_700000_000000L));
        EDGES.looks(29, "the first of two that fail", 1, Edges::busy, x -> x.runScript(3, 700000_000000_000000L));
        EDGES.looks(29, "all succeed", -1, Edges::busy, x -> x.runScript(3, 700000_700000_700000L));
        EDGES.looks(29, "each on what the one before left", -1, Edges::busy,
                x -> x.runScript(3, 400100_110100_910100L));
        EDGES.looks(29, "each on what the one before left", 2, Edges::busy,
                x -> x.runScript(3, 400100_110100_900100L));
    }

    private static void succeeds(int command, boolean does) {
        succeeds(command, does, Edges::busy);
    }

    private static void succeeds(int command, boolean does, Consumer<CottageWeeks> way) {
        String sentence = "the group " + command + (does ? " succeeds" : " fails");
        EDGES.looks(29, sentence, does ? -1 : 0, way, x -> x.runScript(1, command));
        EDGES.due(29, sentence + " as the third", does ? -1 : 2,
                Edges.made(way).runScript(3, 800000_800000_000000L + command));
    }

    private static void scriptTakeAndBid() {
        succeeds(100000, true);
        succeeds(111900, true);
        succeeds(112000, false);
        succeeds(119900, false);
        succeeds(120000, false);
        succeeds(190000, false);
        succeeds(100200, false);
        succeeds(101000, false);
        succeeds(100001, false);
        succeeds(100010, false);
        succeeds(100000, false, x -> {
            Edges.busy(x);
            x.set(2, 1);
        });
        succeeds(120000, false, x -> {
            Edges.busy(x);
            x.set(0, 2);
            x.owner(1);
        });
        succeeds(150000, true, x -> Edges.come(x, 1, 1, 1, 1, 1, 1));
        succeeds(160000, false, x -> Edges.come(x, 1, 1, 1, 1, 1, 1));
        succeeds(201000, true);
        succeeds(211120, true);
        succeeds(211121, false);
        succeeds(211199, false);
        succeeds(200500, false);
        succeeds(200100, false);
        succeeds(202000, false);
        succeeds(221000, false);
        succeeds(200100, false, x -> {
            Edges.busy(x);
            x.school(1, true);
        });
        EDGES.due(29, "bid(o, ww, xx): the extra", -1, spentByBid(7, 18 - 3 - 7));
        EDGES.due(29, "bid(o, ww, xx): the extra", 2, spentByBid(7, 18 - 3 - 7 + 1));
    }

    /** Owner 0, with 18 points, bids this extra, it is settled, and this is left at least. */
    private static int spentByBid(int extra, int left) {
        CottageWeeks x = new CottageWeeks();
        x.set(0, 9);
        x.owner(2);
        x.school(19, true);
        return x.runScript(3, (201900L + extra) * 1000000000000L + 300001000000L + 800000 + left);
    }

    private static void scriptSettle() {
        succeeds(300000, true);
        succeeds(300002, true);
        succeeds(300003, false);
        succeeds(300009, false);
        succeeds(300010, false);
        succeeds(300100, false);
        succeeds(301000, false);
        succeeds(310000, false);
        succeeds(300000, true, x -> { x.owner(1); });
        succeeds(300001, false, x -> { x.owner(1); });
        Consumer<CottageWeeks> nine = x -> {
            x.set(2, 9);
            x.owner(9);
            for (int w = 0; w < 9; w++) {
                x.school(w, true);
                x.bid(0, w, 0);
            }
        };
        succeeds(300009, true, nine);
        succeeds(300008, true, nine);
        EDGES.looks(29, "the bids are gone", 1, Edges::busy, x -> x.runScript(2, 300002_300001L));
    }

    private static void scriptReleaseAndSwap() {
        succeeds(400100, true);
        succeeds(410200, true);
        succeeds(400200, false);
        succeeds(400500, false);
        succeeds(402000, false);
        succeeds(420100, false);
        succeeds(400101, false);
        succeeds(400110, false);
        succeeds(500102, true);
        succeeds(510201, true);
        succeeds(500101, false);
        succeeds(500103, false);
        succeeds(500120, false);
        succeeds(500302, false);
        succeeds(502002, false);
        succeeds(520102, false);
        succeeds(500102, true, x -> offers(x, 7));
        succeeds(500102, false, x -> offers(x, 8));
        succeeds(600000, true);
        succeeds(610000, true);
        succeeds(620000, false);
        succeeds(690000, false);
        succeeds(600001, false);
        succeeds(600010, false);
        succeeds(600100, false);
        succeeds(601000, false);
        succeeds(670000, true, x -> offers(x, 8));
        succeeds(670000, false, x -> offers(x, 7));
        succeeds(680000, false, x -> offers(x, 8));
        EDGES.looks(29, "an offer that is void fails", 1, Edges::busy, x -> x.runScript(2, 600000_600000L));
        EDGES.looks(29, "an offer that is gone fails", 2, Edges::busy, x -> x.runScript(3, 600000_700000_600000L));
        EDGES.looks(29, "the weeks are swapped", -1, Edges::busy, x -> x.runScript(3, 600000_900200_910100L));
    }

    /** As many offers of week 1 for week 2. */
    private static void offers(CottageWeeks x, int count) {
        Edges.busy(x);
        for (int k = 2; k < count; k++) {
            x.offer(0, 1, 2);
        }
    }

    private static void scriptYearAndTests() {
        succeeds(700000, true);
        succeeds(700001, false);
        succeeds(700010, false);
        succeeds(700100, false);
        succeeds(701000, false);
        succeeds(710000, false);
        succeeds(800000, true);
        succeeds(800015, true);
        succeeds(800016, false);
        succeeds(810022, true);
        succeeds(810023, false);
        succeeds(820000, false);
        succeeds(890000, false);
        succeeds(800100, false);
        succeeds(801000, false);
        Consumer<CottageWeeks> rich = x -> {
            x.set(0, 11);
            x.owner(9);
        };
        succeeds(800099, true, rich);
        succeeds(800099, false, x -> {
            rich.accept(x);
            x.cost(0, 1);
            x.take(0, 0);
        });
        succeeds(900100, true);
        succeeds(910200, true);
        succeeds(900200, false);
        succeeds(900500, false);
        succeeds(902000, false);
        succeeds(920100, false);
        succeeds(990100, false);
        succeeds(900101, false);
        succeeds(900110, false);
        succeeds(911900, true, x -> {
            Edges.busy(x);
            x.take(1, 19);
        });
        EDGES.due(29, "commands with owners fail without owners", 0, new CottageWeeks().runScript(1, 800000));
        EDGES.due(29, "year() succeeds without owners", -1, new CottageWeeks().runScript(1, 700000));
        EDGES.due(29, "settle() succeeds without owners", -1, new CottageWeeks().runScript(1, 300000));
    }

    private static void scriptOtherGroups() {
        for (int rest : new int[] {0, 1, 100, 99999, 102, 30000, 10200}) {
            EDGES.looks(29, "any other group fails, 0 and " + rest, 0, Edges::busy, x -> x.runScript(1, rest));
        }
    }

    /** The seed whose first turn leaves x. */
    private static long seedBefore(long x) {
        return (x - PLUS) * BACK;
    }

    private static long number(long x) {
        return x >>> 33;
    }

    /** A seed whose turns have these numbers r; the low bits of the first are tried one by one. */
    private static long seedOf(long first, LongPredicate... others) {
        for (long low = 0; low < 1L << 33; low++) {
            long x = first << 33 | low;
            long next = x;
            boolean fits = true;
            for (int i = 0; i < others.length && fits; i++) {
                next = next * TIMES + PLUS;
                fits = others[i].test(number(next));
            }
            if (fits) {
                return seedBefore(x);
            }
        }
        throw new IllegalStateException("no seed has these turns");
    }

    /** The number r of a turn of this kind with this q. */
    private static long turn(int kind, long q) {
        return q * 16 + kind;
    }

    /** The greatest q with these remainders; small ones would not tell 256 from 255. */
    private static long number(int[]... parts) {
        for (long q = (1 << 27) - 1; q >= 0; q--) {
            boolean fits = true;
            for (int[] part : parts) {
                fits &= q / part[0] % part[1] == part[2];
            }
            if (fits) {
                return q;
            }
        }
        throw new IllegalStateException("no number has these remainders");
    }

    private static int[] part(int divisor, int modulus, int rest) {
        return new int[] {divisor, modulus, rest};
    }

    private static LongPredicate take(int o, int w) {
        return r -> r % 16 == 3 && r / 16 % 6 == o && r / 16 / 8 % 20 == w;
    }

    private static LongPredicate release(int o, int w) {
        return r -> r % 16 == 10 && r / 16 % 6 == o && r / 16 / 8 % 20 == w;
    }

    private static LongPredicate settle() {
        return r -> r % 16 == 9;
    }

    private static LongPredicate accept(int k) {
        return r -> r % 16 == 13 && r / 16 % 8 == k;
    }

    private static void simulated(String sentence, int free, int points, Consumer<CottageWeeks> way, int m, long seed) {
        EDGES.looks(30, sentence, 10000 * free + points, way, x -> x.simulate(seed, m));
    }

    private static void simulateArguments() {
        EDGES.range(30, "m: 1 to 60", Check.ARGUMENT, 1, 60, Edges::busy, (x, m) -> x.simulate(1, m));
        for (long seed : new long[] {0, 1, -1, Long.MIN_VALUE, Long.MAX_VALUE, -PLUS, PLUS}) {
            for (int m : new int[] {1, 2, 59, 60}) {
                int want = byCalls(Edges.made(Edges::busy), seed, m);
                EDGES.looks(30, "any seed, " + seed + ", turns " + m, want, Edges::busy, x -> x.simulate(seed, m));
            }
        }
    }

    /** The first turn takes a week, or nothing is done: r must be 0 to 2147483647, of all 64 bits of x. */
    private static void simulateWraps() {
        Consumer<CottageWeeks> way = x -> Edges.come(x, 9, 9, 9, 9, 9, 9);
        long most = (1L << 31) - 1;
        simulated("r of all ones is year()", 20, 6 * (5 + 36), way, 1, seedOf(most));
        simulated("r of 0 is owner(1)", 20, 4, x -> { }, 1, seedOf(0));
        long high = turn(6, number(part(1, 6, 5), part(8, 20, 19)));
        simulated("r with its highest bit", 19, 213, way, 1, seedOf(high));
        simulated("the lowest bits of x tell nothing", 19, 213, way, 1, seedBefore(high << 33 | (1L << 33) - 1));
        simulated("x becomes 0: owner(1)", 20, 4, x -> { }, 1, seedBefore(0));
        simulated("x becomes -1: year()", 20, 246, way, 1, seedBefore(-1));
    }

    private static void simulateOwnerAndCost() {
        for (int rest = 0; rest < 9; rest++) {
            simulated("0: owner(1 + q % 9)", 20, 4 * (1 + rest), x -> { }, 1, seedOf(turn(0, 9L * 7 + rest)));
        }
        simulated("0: owner() with 6 owners is left out", 20, 24, x -> Edges.come(x, 1, 1, 1, 1, 1, 1), 1,
                seedOf(turn(0, 8)));
        for (int cost : new int[] {1, 2, 8, 9}) {
            for (int w : new int[] {0, 19}) {
                long q = number(part(1, 20, w), part(32, 9, cost - 1));
                simulated("1: cost(" + w + ", " + cost + "), 3: take()", 19, 36 - cost, x -> x.owner(9), 2,
                        seedOf(turn(1, q), take(0, w)));
            }
        }
    }

    private static void simulateSchoolAndTake() {
        for (int w : new int[] {0, 19}) {
            long on = number(part(1, 20, w), part(32, 2, 1));
            long off = number(part(1, 20, w), part(32, 2, 0));
            simulated("2: school(" + w + ", true)", 20, 36, x -> x.owner(9), 2, seedOf(turn(2, on), take(0, w)));
            simulated("2: school(" + w + ", false)", 19, 33, x -> {
                x.owner(9);
                x.school(w, true);
            }, 2, seedOf(turn(2, off), take(0, w)));
        }
        Consumer<CottageWeeks> six = x -> {
            Edges.come(x, 1, 1, 1, 1, 1, 9);
            x.cost(19, 9);
        };
        for (int kind = 3; kind <= 6; kind++) {
            simulated(kind + ": take(5, 19)", 19, 56 - 9, six, 1,
                    seedOf(turn(kind, number(part(1, 6, 5), part(8, 20, 19)))));
            simulated(kind + ": take(0, 19) has not the points", 20, 56, six, 1,
                    seedOf(turn(kind, number(part(1, 6, 0), part(8, 20, 19)))));
            simulated(kind + ": take(0, 0)", 19, 53, six, 1,
                    seedOf(turn(kind, number(part(1, 6, 0), part(8, 20, 0)))));
            simulated(kind + ": an owner that is not there is left out", 20, 36, x -> x.owner(9), 1,
                    seedOf(turn(kind, number(part(1, 6, 1), part(8, 20, 0)))));
        }
        simulated("10: release(5, 19)", 20, 56 - 9 + 4, six.andThen(x -> x.take(5, 19)), 1,
                seedOf(turn(10, number(part(1, 6, 5), part(8, 20, 19)))));
        simulated("10: release(4, 19), of another one, is left out", 19, 56 - 9, six.andThen(x -> x.take(5, 19)), 1,
                seedOf(turn(10, number(part(1, 6, 4), part(8, 20, 19)))));
        simulated("10: release(0, 0)", 20, 36 - 3 + 1, x -> {
            x.owner(9);
            x.take(0, 0);
        }, 1, seedOf(turn(10, number(part(1, 6, 0), part(8, 20, 0)))));
    }

    private static void simulateBids() {
        for (int kind = 7; kind <= 8; kind++) {
            for (int extra : new int[] {0, 1, 19, 20}) {
                for (int w : new int[] {0, 19}) {
                    long q = number(part(1, 6, 5), part(8, 20, w), part(256, 21, extra));
                    simulated(kind + ": bid(5, " + w + ", " + extra + "), 9: settle()", 19, 56 - 3 - extra, x -> {
                        Edges.come(x, 1, 1, 1, 1, 1, 9);
                        x.school(w, true);
                    }, 2, seedOf(turn(kind, q), settle()));
                }
            }
        }
        long q = number(part(1, 6, 0), part(8, 20, 19), part(256, 21, 0));
        simulated("7: a bid for no school week is left out", 20, 36, x -> x.owner(9), 2, seedOf(turn(7, q), settle()));
        simulated("9: settle()", 19, 36 - 13, x -> {
            x.owner(9);
            x.school(19, true);
            x.bid(0, 19, 10);
        }, 1, seedOf(turn(9, 5)));
    }

    /** Who holds a week after a swap shows when it is released; a refused release leaves it held. */
    private static void simulateSwaps() {
        Consumer<CottageWeeks> way = x -> {
            Edges.come(x, 9, 1, 1, 1, 1, 9);
            x.take(0, 0);
            x.take(5, 19);
        };
        for (int kind = 11; kind <= 12; kind++) {
            int[] high = part(1 << 20, 128, 127 - kind);
            long first = number(high, part(1, 6, 5), part(8, 20, 19), part(256, 20, 0));
            long past = number(part(1, 6, 5), part(8, 20, 19), part(256, 60, 20));
            long other = number(high, part(1, 6, 0), part(8, 20, 0), part(256, 20, 19));
            long free = number(part(1, 6, 0), part(8, 20, 0), part(256, 20, 18));
            long alone = number(part(1, 24, 0), part(8, 20, 0), part(256, 20, 19));
            String sentence = kind + ": offer(), 13: accept(), release()";
            simulated(sentence, 19, 83, way, 3, seedOf(turn(kind, first), accept(0), release(0, 19)));
            simulated(sentence + ", q / 256 is 20", 19, 83, way, 3,
                    seedOf(turn(kind, past), accept(0), release(0, 19)));
            simulated(sentence, 19, 83, way, 3, seedOf(turn(kind, other), accept(0), release(5, 0)));
            simulated(kind + ": offer() alone swaps nothing, 10: release()", 19, 83, way, 2,
                    seedOf(turn(kind, alone), release(0, 0)));
            simulated(sentence + ", no such offer", 18, 82, way, 3,
                    seedOf(turn(kind, other), accept(1), release(5, 0)));
            simulated(sentence + ", the offer is left out", 18, 82, way, 3,
                    seedOf(turn(kind, free), accept(0), release(5, 0)));
        }
        Consumer<CottageWeeks> eight = way.andThen(x -> {
            for (int k = 0; k < 8; k++) {
                x.offer(0, 0, 19);
            }
        });
        simulated("13: accept(7)", 19, 83, eight, 2, seedOf(turn(13, 7), release(0, 19)));
        simulated("13: accept(0)", 19, 83, eight, 2, seedOf(turn(13, 8), release(0, 19)));
    }

    private static void simulateUpkeepAndYear() {
        simulated("14: upkeep(1) is no other turn", 19, 33, x -> {
            x.owner(9);
            x.take(0, 0);
        }, 1, seedOf(turn(14, 0)));
        simulated("14: upkeep(999) is no other turn", 19, 33, x -> {
            x.owner(9);
            x.take(0, 0);
        }, 1, seedOf(turn(14, 998)));
        simulated("14: upkeep without owners is left out", 20, 0, x -> { }, 1, seedOf(turn(14, 998)));
        simulated("15: year()", 20, 5 + 36, x -> {
            x.owner(9);
            x.take(0, 0);
        }, 1, seedOf(turn(15, 0)));
        simulated("15: year() without owners", 20, 0, x -> { }, 1, seedOf(turn(15, 1)));
    }

    /** The points of the same turns, as calls, with x as a number that is not bounded. */
    private static int byCalls(CottageWeeks house, long seed, int m) {
        BigInteger x = BigInteger.valueOf(seed);
        for (int i = 0; i < m; i++) {
            x = x.multiply(BigInteger.valueOf(TIMES)).add(BigInteger.valueOf(PLUS)).mod(WRAP);
            int r = x.shiftRight(33).intValueExact();
            Check.answer(() -> turnByCall(house, r % 16, r / 16));
        }
        return 10000 * house.about(2) + house.about(7);
    }

    private static int turnByCall(CottageWeeks house, int kind, int q) {
        switch (kind) {
            case 0: return house.owner(1 + q % 9);
            case 1: return house.cost(q % 20, 1 + q / 32 % 9);
            case 2: return house.school(q % 20, q / 32 % 2 == 1);
            case 3: case 4: case 5: case 6: return house.take(q % 6, q / 8 % 20);
            case 7: case 8: return house.bid(q % 6, q / 8 % 20, q / 256 % 21);
            case 9: return house.settle();
            case 10: return house.release(q % 6, q / 8 % 20);
            case 11: case 12: return house.offer(q % 6, q / 8 % 20, q / 256 % 20);
            case 13: return house.accept(q % 8);
            case 14: return house.upkeep(1 + q % 999);
            default: return house.year();
        }
    }

    private static void simulateMany() {
        for (long seed = 0; seed < 300; seed++) {
            CottageWeeks x = Edges.house(9, 8, 7);
            CottageWeeks y = Edges.made(ScriptEdgesTest::fullHouse);
            int m = 60 - (int) (seed % 3);
            EDGES.due(30, "turns of seed " + seed, byCalls(Edges.house(9, 8, 7), seed, m), x.simulate(seed, m));
            EDGES.due(30, "the same seed again, " + seed, x.simulate(seed, m), x.simulate(seed, m));
            EDGES.due(30, "turns in a full house of seed " + seed, byCalls(Edges.made(ScriptEdgesTest::fullHouse),
                    seed, m), y.simulate(seed, m));
        }
    }

    /** All weeks are held, by six owners. */
    private static void fullHouse(CottageWeeks x) {
        x.set(2, 10);
        Edges.come(x, 5, 6, 7, 8, 9, 9);
        for (int w = 0; w < 20; w++) {
            x.take(w % 6, w);
        }
        for (int w = 0; w < 4; w++) {
            x.offer(w % 6, w, w + 7);
        }
    }

    private static void save() {
        EDGES.range(31, "slot 0 or 1", Check.BOUNDS, 0, 1, Edges::busy, CottageWeeks::save);
        CottageWeeks x = Edges.made(Edges::busy);
        String before = Check.shown(Edges.made(Edges::busy));
        EDGES.due(31, "the year, the first", 0, x.save(0));
        EDGES.due(31, "it changes nothing of the state", before, Check.shown(x));
        x.year();
        EDGES.due(31, "the year, the second", 1, x.save(1));
        EDGES.due(31, "save is no action", 13, x.undo());
        EDGES.due(31, "the other slot stays", 0, x.restore(0));
        EDGES.due(31, "the state of slot 0", before, Check.shown(x));
        saveOver();
    }

    private static void saveOver() {
        Consumer<CottageWeeks> way = x -> {
            Edges.busy(x);
            x.save(0);
            x.owner(9);
        };
        String later = Check.shown(Edges.made(way));
        CottageWeeks x = Edges.made(way);
        x.save(1);
        x.restore(0);
        EDGES.due(31, "in place of what was saved before", 0, x.restore(1));
        EDGES.due(31, "the state of slot 1", later, Check.shown(x));
    }

    private static void restore() {
        EDGES.range(32, "slot 0 or 1", Check.BOUNDS, 0, 1, Edges::busy, CottageWeeks::restore);
        EDGES.range(32, "slot 0 or 1, those saved on", Check.BOUNDS, 0, 1, x -> {
            x.save(0);
            x.save(1);
        }, CottageWeeks::restore);
        for (int slot = 0; slot < 2; slot++) {
            int s = slot;
            EDGES.refused(32, "nothing saved in " + slot, Check.STATE, x -> x.save(1 - s), x -> x.restore(s));
            EDGES.refused(32, "nothing saved in " + slot + " since the last load", Check.STATE, x -> {
                Edges.busy(x);
                x.load();
                x.save(1 - s);
            }, x -> x.restore(s));
        }
        EDGES.refused(32, "no such slot before nothing saved", Check.BOUNDS, x -> { }, x -> x.restore(2));
        CottageWeeks x = Edges.made(Edges::busy);
        x.load();
        x.save(0);
        EDGES.due(32, "saved since the last load", 0, x.restore(0));
        CottageWeeks y = Edges.made(Edges::busy);
        Edges.write(y, "o");
        Check.answer(y::load);
        EDGES.due(32, "a load that throws empties no slot", 0, y.restore(1));
    }

    /** Each owner has won, pays and bids; each week is a school week or held; there are 8 offers. */
    private static void allOfIt(CottageWeeks x) {
        x.set(0, 20);
        x.set(2, 10);
        Edges.come(x, 9, 8, 7, 6, 5, 4);
        for (int o = 0; o < 6; o++) {
            x.school(o, true);
            x.bid(o, o, o);
        }
        x.settle();
        x.upkeep(999);
        x.year();
        for (int w = 6; w < 20; w++) {
            x.cost(w, w % 9 + 1);
            x.take(w % 6, w);
        }
        for (int k = 0; k < 8; k++) {
            x.offer((k + 2) % 6, 14 + k % 6, 6 + k);
        }
        for (int w = 0; w < 6; w++) {
            for (int o = 0; o < 6; o++) {
                x.bid(o, w, 20 - o - w);
            }
        }
        x.school(19, true);
    }

    /** Nothing of it is left, but the owners. */
    private static void noneOfIt(CottageWeeks x) {
        x.year();
        for (int w = 0; w < 20; w++) {
            x.school(w, w > 5);
            x.cost(w, 9 - w % 4);
        }
        for (int o = 0; o < 6; o++) {
            x.bid(o, 6 + o, 0);
        }
        x.settle();
        x.upkeep(500);
        x.year();
    }

    private static void wholeStates() {
        String want = Check.shown(() -> Edges.made(ScriptEdgesTest::allOfIt));
        EDGES.due(32, "all of the state in a slot", want, Check.shown(() -> Edges.made(x -> {
            allOfIt(x);
            x.save(1);
            noneOfIt(x);
            x.restore(1);
        })));
        EDGES.due(23, "all of the state is taken back", want, Check.shown(() -> Edges.made(x -> {
            allOfIt(x);
            x.year();
            x.upkeep(77);
            x.bid(5, 0, 20);
            x.bid(5, 5, 0);
            x.settle();
            for (int i = 0; i < 5; i++) {
                x.undo();
            }
        })));
        EDGES.looks(29, "a script has all of the state", -1, ScriptEdgesTest::allOfIt,
                x -> x.runScript(3, 670000_300006_800000L));
    }

    private static void restoreForgets() {
        CottageWeeks x = Edges.made(Edges::busy);
        EDGES.due(32, "the year then", 0, x.restore(0));
        EDGES.due(32, "the owners then", 1, x.about(0));
        EDGES.due(32, "all remembered states are forgotten", Check.STATE, Check.answer(x::undo));
        x.year();
        x.year();
        x.set(2, 9);
        EDGES.due(32, "restore is no action: only what is behind it", 2, x.undo());
        EDGES.due(32, "the slot keeps it", 0, x.restore(0));
        EDGES.due(32, "the year of the slot", 0, x.about(1));
        EDGES.due(32, "setting 0 of the slot", 6, x.set(0, 6));
        EDGES.due(32, "setting 1 of the slot", 7, x.set(1, 7));
        EDGES.due(32, "setting 2 of the slot", 4, x.set(2, 4));
        x.undo();
        EDGES.due(32, "undo keeps the slots", 0, x.restore(1));
        EDGES.due(32, "the text is kept", 11, x.clearText());
        CottageWeeks y = new CottageWeeks();
        y.year();
        y.save(1);
        y.year();
        EDGES.due(32, "the year of the slot", 1, y.restore(1));
        y.save(0);
        EDGES.due(32, "a slot of a slot", 1, y.restore(0));
    }
}

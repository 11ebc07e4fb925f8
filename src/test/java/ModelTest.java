import java.util.Random;
import java.util.concurrent.Callable;

/** Long runs of calls with fixed seeds, each answer against the model's. */
public final class ModelTest {
    private static final int RUNS = 1500;
    /** What later calls of an object answer is free. */
    private static final int CALLS = 512;
    private static final int CALLS_OF_LAST_LOOK = 188;
    private static final int WRONG_AT_MOST = 20;
    private static final String LETTERS = "okkssttttbbbberrffaauy";

    private final Check check;
    private final Random random;
    private final CottageWeeks house = new CottageWeeks();
    private final Model model = new Model();
    private final boolean[] seen;
    private boolean same = true;
    private int used;

    private ModelTest(Check check, long seed, boolean[] seen) {
        this.check = check;
        this.random = new Random(seed);
        this.seen = seen;
    }

    public static void main(String[] args) {
        Check check = new Check();
        int wrong = 0;
        boolean[] seen = new boolean[14];
        for (int run = 0; run < RUNS && wrong < WRONG_AT_MOST; run++) {
            ModelTest test = new ModelTest(check, run, seen);
            test.run("run " + run + ", ");
            wrong += test.same ? 0 : 1;
        }
        for (int what = 0; what < seen.length; what++) {
            check.due("runs with about " + what, true, seen[what]);
        }
        check.end();
    }

    private void run(String name) {
        while (used < CALLS - CALLS_OF_LAST_LOOK && same) {
            step(name + "call " + used + ": ");
        }
        everything(name + "at its end: ");
    }

    private void compare(String what, Callable<Integer> ours, Callable<Integer> theirs) {
        if (used >= CALLS) {
            return;
        }
        used++;
        String want = Check.answer(theirs);
        String got = Check.answer(ours);
        check.due(what, want, got);
        same &= want.equals(got);
    }

    /** Mostly what there is; now and then what is just outside, or far. */
    private int number(int least, int most) {
        int kind = random.nextInt(60);
        if (kind == 0) {
            return random.nextBoolean() ? least - 1 : most + 1;
        } else if (kind == 1) {
            return random.nextInt();
        }
        return least + random.nextInt(most - least + 1);
    }

    private int ownerNumber() {
        return number(0, Math.max(0, model.about(0) - 1));
    }

    /** Few weeks are used in most calls, so that the calls meet. */
    private int week() {
        return random.nextInt(4) == 0 ? number(0, 19) : random.nextInt(4) * 5 + random.nextInt(2) * 4;
    }

    private int heldWeek() {
        int w = week();
        for (int i = 0; i < 20 && random.nextInt(12) != 0; i++) {
            int v = random.nextInt(20);
            if (model.weekOf(v, 2) >= 0) {
                return v;
            }
        }
        return w;
    }

    private int holder(int w) {
        boolean known = w >= 0 && w < 20 && random.nextInt(8) != 0;
        int o = known ? model.weekOf(w, 2) : -1;
        return o >= 0 ? o : ownerNumber();
    }

    private int schoolWeek() {
        for (int i = 0; i < 20 && random.nextInt(12) != 0; i++) {
            int v = random.nextInt(20);
            if (model.weekOf(v, 1) == 1 && model.weekOf(v, 2) < 0) {
                return v;
            }
        }
        return week();
    }

    private void step(String at) {
        int kind = random.nextInt(20);
        if (kind < 12) {
            action(at);
        } else if (kind < 17) {
            look(at);
        } else {
            rare(at);
        }
    }

    private void action(String at) {
        int w = week();
        int o = ownerNumber();
        int n = number(0, 20);
        switch (random.nextInt(24)) {
            case 0: case 1: {
                int share = number(1, 9);
                compare(at + "owner " + share, () -> house.owner(share), () -> model.owner(share));
                break;
            }
            case 2: {
                int c = number(1, 9);
                compare(at + "cost " + w + " " + c, () -> house.cost(w, c), () -> model.cost(w, c));
                break;
            }
            case 3: case 4: {
                boolean on = random.nextInt(3) != 0;
                compare(at + "school " + w + " " + on, () -> house.school(w, on), () -> model.school(w, on));
                break;
            }
            case 5: case 6: case 7: case 8: case 9:
                compare(at + "take " + o + " " + w, () -> house.take(o, w), () -> model.take(o, w));
                break;
            case 10: {
                int v = heldWeek();
                int p = holder(v);
                compare(at + "release " + p + " " + v, () -> house.release(p, v), () -> model.release(p, v));
                break;
            }
            case 11: case 12: case 13: case 14: case 15: {
                int v = schoolWeek();
                int extra = random.nextBoolean() ? random.nextInt(3) : n;
                compare(at + "bid " + o + " " + v + " " + extra, () -> house.bid(o, v, extra),
                    () -> model.bid(o, v, extra));
                break;
            }
            case 16:
                compare(at + "settle", house::settle, model::settle);
                break;
            case 17: case 18: case 19: {
                int v = heldWeek();
                int p = holder(v);
                int x = heldWeek();
                compare(at + "offer " + p + " " + v + " " + x, () -> house.offer(p, v, x),
                    () -> model.offer(p, v, x));
                break;
            }
            case 20: {
                int k = number(0, Math.max(0, model.about(9) - 1));
                compare(at + "accept " + k, () -> house.accept(k), () -> model.accept(k));
                break;
            }
            case 21: {
                int coins = number(1, random.nextBoolean() ? 20 : 999);
                compare(at + "upkeep " + coins, () -> house.upkeep(coins), () -> model.upkeep(coins));
                break;
            }
            case 22:
                yearOrSet(at);
                break;
            default:
                compare(at + "undo", house::undo, model::undo);
                break;
        }
    }

    private void yearOrSet(String at) {
        if (random.nextInt(3) == 0) {
            compare(at + "year", house::year, model::year);
        } else {
            int what = number(0, 2);
            int v = number(what == 1 ? 0 : 1, what == 2 ? 10 : 20);
            compare(at + "set " + what + " " + v, () -> house.set(what, v), () -> model.set(what, v));
        }
    }

    private void look(String at) {
        int o = ownerNumber();
        int w = week();
        switch (random.nextInt(11)) {
            case 0: {
                int what = number(0, 13);
                compare(at + "about " + what, () -> house.about(what), () -> model.about(what));
                break;
            }
            case 1: {
                int what = number(0, 6);
                compare(at + "ownerOf " + o + " " + what, () -> house.ownerOf(o, what), () -> model.ownerOf(o, what));
                break;
            }
            case 2: {
                int what = number(0, 4);
                compare(at + "weekOf " + w + " " + what, () -> house.weekOf(w, what), () -> model.weekOf(w, what));
                break;
            }
            case 3:
                compare(at + "bidOf " + o + " " + w, () -> house.bidOf(o, w), () -> model.bidOf(o, w));
                break;
            case 4: {
                int k = number(0, Math.max(0, model.about(9) - 1));
                int what = number(0, 3);
                compare(at + "offerOf " + k + " " + what, () -> house.offerOf(k, what), () -> model.offerOf(k, what));
                break;
            }
            case 5:
                compare(at + "why " + o + " " + w, () -> house.why(o, w), () -> model.why(o, w));
                break;
            case 6: {
                int way = number(0, 1);
                compare(at + "could " + way, () -> house.could(way), () -> model.could(way));
                break;
            }
            case 7: {
                int v = schoolWeek();
                compare(at + "winner " + v, () -> house.winner(v), () -> model.winner(v));
                break;
            }
            case 8: {
                int v = schoolWeek();
                compare(at + "leastBid " + o + " " + v, () -> house.leastBid(o, v), () -> model.leastBid(o, v));
                break;
            }
            case 9: {
                int coins = number(1, 999);
                compare(at + "ifUpkeep " + o + " " + coins, () -> house.ifUpkeep(o, coins),
                    () -> model.ifUpkeep(o, coins));
                break;
            }
            default:
                if (random.nextInt(10) == 0) {
                    everything(at);
                }
                break;
        }
    }

    private void everything(String at) {
        for (int i = 0; i <= 13; i++) {
            int what = i;
            compare(at + "about " + what, () -> house.about(what), () -> model.about(what));
            seen[what] |= model.about(what) > 0;
        }
        for (int i = 0; i < 20; i++) {
            int w = i;
            for (int j = 0; j <= 4; j++) {
                int what = j;
                compare(at + "weekOf " + w + " " + what, () -> house.weekOf(w, what), () -> model.weekOf(w, what));
            }
        }
        for (int i = 0; i < model.about(0); i++) {
            int o = i;
            for (int j = 0; j <= 6; j++) {
                int what = j;
                compare(at + "ownerOf " + o + " " + what, () -> house.ownerOf(o, what), () -> model.ownerOf(o, what));
            }
        }
        for (int i = 0; i < model.about(9); i++) {
            int k = i;
            for (int j = 0; j <= 3; j++) {
                int what = j;
                compare(at + "offerOf " + k + " " + what, () -> house.offerOf(k, what), () -> model.offerOf(k, what));
            }
        }
    }

    private void rare(String at) {
        switch (random.nextInt(12)) {
            case 0: {
                int slot = number(0, 1);
                compare(at + "save " + slot, () -> house.save(slot), () -> model.save(slot));
                break;
            }
            case 1:
                if (random.nextInt(6) == 0) {
                    int slot = number(0, 1);
                    compare(at + "restore " + slot, () -> house.restore(slot), () -> model.restore(slot));
                }
                break;
            case 2: case 3: case 4: case 5: case 6: case 7: {
                int n = number(1, 3);
                long script = script();
                compare(at + "runScript " + n + " " + script, () -> house.runScript(n, script),
                    () -> model.runScript(n, script));
                break;
            }
            case 8: case 9: {
                int m = number(1, 60);
                long seed = random.nextLong();
                compare(at + "simulate " + seed + " " + m, () -> house.simulate(seed, m),
                    () -> model.simulate(seed, m));
                break;
            }
            default:
                if (random.nextInt(5) == 0) {
                    text(at);
                }
                break;
        }
    }

    private long script() {
        long script = random.nextInt(40) == 0 ? random.nextLong() : 0;
        for (int i = 0; i <= random.nextInt(3); i++) {
            script = script * 1000000 + command();
        }
        return script;
    }

    private long command() {
        long o = random.nextInt(Math.max(1, model.about(0)));
        long w = random.nextBoolean() ? heldWeek() & 31 : schoolWeek() & 31;
        long x = random.nextBoolean() ? heldWeek() & 31 : 0;
        long wrong = random.nextInt(8) == 0 ? (long) Math.pow(10, random.nextInt(6)) : 0;
        switch (random.nextInt(10)) {
            case 0: return 100000 + o * 10000 + (week() & 31) * 100 + wrong;
            case 1: return 200000 + o * 10000 + w * 100 + random.nextInt(22) + wrong;
            case 2: return 300000 + random.nextInt(3) + wrong;
            case 3: return 400000 + o * 10000 + w * 100 + wrong;
            case 4: return 500000 + o * 10000 + w * 100 + x + wrong;
            case 5: return 600000 + random.nextInt(3) * 10000 + wrong;
            case 6: return 700000 + wrong;
            case 7: return 800000 + o * 10000 + random.nextInt(40) + wrong;
            case 8: return 900000 + o * 10000 + w * 100 + wrong;
            default: return random.nextInt(1000000);
        }
    }

    private void text(String at) {
        compare(at + "clearText", house::clearText, model::clearText);
        StringBuilder text = new StringBuilder("C");
        for (int i = 0; i < 3; i++) {
            text.append('o').append(1 + random.nextInt(9));
        }
        while (text.length() < 110 && random.nextInt(30) != 0) {
            text.append(commandText());
        }
        if (random.nextInt(4) == 0) {
            text.setLength(random.nextInt(text.length()) + 1);
        }
        if (random.nextInt(4) == 0) {
            text.setCharAt(random.nextInt(text.length()), "C0129okstb+-ay~\u00e9".charAt(random.nextInt(16)));
        }
        for (int i = 0; i < text.length(); i++) {
            char c = text.charAt(i);
            compare(at + "append", () -> house.append(c), () -> model.append(c));
        }
        compare(at + "errorPosition of " + text, house::errorPosition, model::errorPosition);
        compare(at + "load of " + text, house::load, model::load);
        everything(at + "after load of " + text + ", ");
    }

    private String commandText() {
        int o = random.nextInt(4);
        int w = random.nextInt(3) == 0 ? random.nextInt(20) : random.nextInt(4);
        int x = random.nextInt(4);
        char letter = LETTERS.charAt(random.nextInt(LETTERS.length()));
        switch (letter) {
            case 'o': return "o" + (1 + random.nextInt(9));
            case 'k': return String.format("k%02d%d", w, 1 + random.nextInt(9));
            case 's': return String.format("s%02d%s", w, random.nextBoolean() ? "+" : "-");
            case 't': return String.format("t%d%02d", o, w);
            case 'b': return String.format("b%d%02d%02d", o, w, random.nextInt(21));
            case 'r': return String.format("r%d%02d", o, w);
            case 'f': return String.format("f%d%02d%02d", o, w, x);
            case 'a': return "a" + random.nextInt(2);
            case 'u': return String.format("u%03d", 1 + random.nextInt(999));
            default: return String.valueOf(letter);
        }
    }
}

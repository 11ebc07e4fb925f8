import java.util.ArrayDeque;
import java.util.ArrayList;
import java.util.Comparator;
import java.util.Deque;
import java.util.List;
import java.util.TreeMap;
import java.util.function.BooleanSupplier;
import java.util.regex.Matcher;
import java.util.regex.Pattern;

/** The document once more, written another way: new objects for every state, libraries, no care for speed. */
final class Model {
    private static final String COMMAND = "o([1-9])|k([01][0-9])([1-9])|s([01][0-9])([+-])|t([0-5])([01][0-9])"
        + "|b([0-5])([01][0-9])([01][0-9]|20)|e|r([0-5])([01][0-9])|f([0-5])([01][0-9])([01][0-9])|a([0-7])"
        + "|u(00[1-9]|0[1-9][0-9]|[1-9][0-9][0-9])|y";
    private static final Pattern HOUSE = Pattern.compile("C(?:" + COMMAND + ")*");

    private static final class Owner {
        int share;
        int points;
        int won;
        int coins;
        TreeMap<Integer, Integer> bids = new TreeMap<>();

        Owner twin() {
            Owner o = new Owner();
            o.share = share;
            o.points = points;
            o.won = won;
            o.coins = coins;
            o.bids.putAll(bids);
            return o;
        }
    }

    private static final class Week {
        int cost = 3;
        boolean school;
        Owner holder;
    }

    private record Swap(Owner who, int week, int other) { }

    private static final class State {
        List<Owner> owners = new ArrayList<>();
        List<Week> weeks = new ArrayList<>();
        List<Swap> offers = new ArrayList<>();
        int[] settings = {4, 5, 3};
        int year;
        int given;
        int spent;
        int back;
        int lapsed;
        int swaps;
        int voids;
        int refused;
        int coins;

        State() {
            for (int w = 0; w < 20; w++) {
                weeks.add(new Week());
            }
        }

        State twin() {
            State s = new State();
            owners.forEach(o -> s.owners.add(o.twin()));
            for (int w = 0; w < 20; w++) {
                Week from = weeks.get(w);
                Week to = s.weeks.get(w);
                to.cost = from.cost;
                to.school = from.school;
                to.holder = from.holder == null ? null : s.owners.get(owners.indexOf(from.holder));
            }
            for (Swap f : offers) {
                s.offers.add(new Swap(s.owners.get(owners.indexOf(f.who)), f.week, f.other));
            }
            s.settings = settings.clone();
            s.year = year;
            s.given = given;
            s.spent = spent;
            s.back = back;
            s.lapsed = lapsed;
            s.swaps = swaps;
            s.voids = voids;
            s.refused = refused;
            s.coins = coins;
            return s;
        }

        long held(Owner o) {
            return weeks.stream().filter(w -> w.holder == o).count();
        }
    }

    private State now = new State();
    private String text = "";
    private Deque<State> before = new ArrayDeque<>();
    private State[] slots = new State[2];

    private static void must(boolean so, RuntimeException otherwise) {
        if (!so) {
            throw otherwise;
        }
    }

    private static RuntimeException bounds() {
        return new IndexOutOfBoundsException();
    }

    private static RuntimeException argument() {
        return new IllegalArgumentException();
    }

    private static RuntimeException state() {
        return new IllegalStateException();
    }

    private Owner ownerAt(int o) {
        must(o >= 0 && o < now.owners.size(), bounds());
        return now.owners.get(o);
    }

    private Week weekAt(int w) {
        must(w >= 0 && w < 20, bounds());
        return now.weeks.get(w);
    }

    private Swap offerAt(int k) {
        must(k >= 0 && k < now.offers.size(), bounds());
        return now.offers.get(k);
    }

    private void act() {
        before.addLast(now.twin());
        if (before.size() > 14) {
            before.removeFirst();
        }
    }

    /** A model of its own that starts from the present state. */
    private Model twin() {
        Model m = new Model();
        m.now = now.twin();
        return m;
    }

    int append(int c) {
        must(c >= 0 && c <= 255, argument());
        must(text.length() < 120, state());
        text += (char) c;
        return text.length();
    }

    int clearText() {
        int length = text.length();
        text = "";
        return length;
    }

    /** The longest start of the text that some house goes on from. */
    int errorPosition() {
        if (HOUSE.matcher(text).matches()) {
            return -1;
        }
        for (int n = text.length(); n > 0; n--) {
            Matcher m = HOUSE.matcher(text.substring(0, n));
            if (m.matches() || m.hitEnd()) {
                return n;
            }
        }
        return 0;
    }

    int load() {
        must(HOUSE.matcher(text).matches(), state());
        now = new State();
        slots = new State[2];
        int leftOut = 0;
        Matcher m = Pattern.compile(COMMAND).matcher(text.substring(1));
        while (m.find()) {
            String command = m.group();
            int refused = now.refused;
            if (!succeeds(() -> done(command))) {
                leftOut++;
            }
            now.refused = refused;
        }
        before.clear();
        return leftOut;
    }

    private static boolean succeeds(BooleanSupplier call) {
        try {
            return call.getAsBoolean();
        } catch (RuntimeException e) {
            return false;
        }
    }

    private static int part(String s, int from, int to) {
        return Integer.parseInt(s.substring(from, to));
    }

    private boolean done(String s) {
        switch (s.charAt(0)) {
            case 'o': owner(part(s, 1, 2)); break;
            case 'k': cost(part(s, 1, 3), part(s, 3, 4)); break;
            case 's': school(part(s, 1, 3), s.endsWith("+")); break;
            case 't': return take(part(s, 1, 2), part(s, 2, 4)) == 0;
            case 'b': bid(part(s, 1, 2), part(s, 2, 4), part(s, 4, 6)); break;
            case 'e': settle(); break;
            case 'r': release(part(s, 1, 2), part(s, 2, 4)); break;
            case 'f': offer(part(s, 1, 2), part(s, 2, 4), part(s, 4, 6)); break;
            case 'a': accept(part(s, 1, 2)); break;
            case 'u': upkeep(part(s, 1, 4)); break;
            default: year(); break;
        }
        return true;
    }

    int about(int what) {
        must(what >= 0 && what <= 13, argument());
        int bids = now.owners.stream().mapToInt(o -> o.bids.size()).sum();
        int points = now.owners.stream().mapToInt(o -> o.points).sum();
        return new int[] {now.owners.size(), now.year, (int) now.held(null), now.given, now.spent, now.back,
            now.lapsed, points, bids, now.offers.size(), now.swaps, now.voids, now.refused, now.coins}[what];
    }

    int ownerOf(int o, int what) {
        Owner x = ownerAt(o);
        must(what >= 0 && what <= 6, argument());
        int lowest = now.weeks.indexOf(now.weeks.stream().filter(w -> w.holder == x).findFirst().orElse(null));
        return new int[] {x.share, x.points, (int) now.held(x), x.won, x.coins, lowest, x.bids.size()}[what];
    }

    int weekOf(int w, int what) {
        Week x = weekAt(w);
        must(what >= 0 && what <= 4, argument());
        int bids = (int) now.owners.stream().filter(o -> o.bids.containsKey(w)).count();
        int most = now.owners.stream().mapToInt(o -> o.bids.getOrDefault(w, -1)).max().orElse(-1);
        return new int[] {x.cost, x.school ? 1 : 0, now.owners.indexOf(x.holder), bids, most}[what];
    }

    int bidOf(int o, int w) {
        Owner x = ownerAt(o);
        weekAt(w);
        return x.bids.getOrDefault(w, -1);
    }

    private boolean isVoid(Swap f) {
        Owner other = now.weeks.get(f.other).holder;
        return now.weeks.get(f.week).holder != f.who || other == null || other == f.who;
    }

    int offerOf(int k, int what) {
        Swap f = offerAt(k);
        must(what >= 0 && what <= 3, argument());
        return new int[] {now.owners.indexOf(f.who), f.week, f.other, isVoid(f) ? 1 : 0}[what];
    }

    int owner(int share) {
        must(share >= 1 && share <= 9, argument());
        must(now.owners.size() < 6, state());
        act();
        Owner o = new Owner();
        o.share = share;
        o.points = share * now.settings[0];
        now.given += o.points;
        now.owners.add(o);
        return now.owners.size() - 1;
    }

    int cost(int w, int points) {
        Week x = weekAt(w);
        must(points >= 1 && points <= 9, argument());
        act();
        int previous = x.cost;
        x.cost = points;
        return previous;
    }

    int school(int w, boolean on) {
        Week x = weekAt(w);
        act();
        x.school = on;
        return (int) now.weeks.stream().filter(v -> v.school).count();
    }

    int why(int o, int w) {
        Owner x = ownerAt(o);
        Week v = weekAt(w);
        return v.school ? 1 : v.holder != null ? 2 : now.held(x) >= now.settings[2] ? 3 : x.points < v.cost ? 4 : 0;
    }

    int take(int o, int w) {
        int reason = why(o, w);
        act();
        if (reason != 0) {
            now.refused++;
            return reason;
        }
        give(now.owners.get(o), now.weeks.get(w), 0);
        return 0;
    }

    private void give(Owner o, Week w, int extra) {
        w.holder = o;
        o.points -= w.cost + extra;
        now.spent += w.cost + extra;
    }

    int release(int o, int w) {
        Owner x = ownerAt(o);
        Week v = weekAt(w);
        must(v.holder == x, state());
        act();
        v.holder = null;
        x.points += v.cost / 2;
        now.back += v.cost / 2;
        return v.cost / 2;
    }

    int bid(int o, int w, int extra) {
        Owner x = ownerAt(o);
        Week v = weekAt(w);
        must(extra >= 0 && extra <= 20, argument());
        must(v.school && v.holder == null, state());
        act();
        x.bids.put(w, extra);
        return weekOf(w, 3);
    }

    int settle() {
        act();
        int wins = 0;
        for (int w = 0; w < 20; w++) {
            int at = w;
            Week week = now.weeks.get(w);
            Comparator<Owner> order = Comparator.comparing((Owner o) -> -o.bids.get(at))
                .thenComparing(o -> o.won).thenComparing(o -> -o.share).thenComparing(o -> now.owners.indexOf(o));
            Owner best = now.owners.stream()
                .filter(o -> week.school && week.holder == null && o.bids.containsKey(at))
                .filter(o -> now.held(o) < now.settings[2] && o.points >= week.cost + o.bids.get(at))
                .min(order).orElse(null);
            if (best != null) {
                give(best, week, best.bids.get(at));
                best.won++;
                wins++;
            }
        }
        now.owners.forEach(o -> o.bids.clear());
        return wins;
    }

    int offer(int o, int w, int x) {
        Owner who = ownerAt(o);
        weekAt(w);
        weekAt(x);
        Swap f = new Swap(who, w, x);
        must(!isVoid(f) && now.offers.size() < 8, state());
        act();
        now.offers.add(f);
        return now.offers.size() - 1;
    }

    int accept(int k) {
        offerAt(k);
        act();
        Swap f = now.offers.remove(k);
        if (isVoid(f)) {
            now.voids++;
            return 0;
        }
        now.swaps++;
        Week mine = now.weeks.get(f.week);
        mine.holder = now.weeks.get(f.other).holder;
        now.weeks.get(f.other).holder = f.who;
        return 1;
    }

    private int[] parts(int coins) {
        int all = now.owners.stream().mapToInt(o -> o.share).sum();
        int n = now.owners.size();
        int[] parts = new int[n];
        List<Integer> order = new ArrayList<>();
        int left = coins;
        for (int o = 0; o < n; o++) {
            parts[o] = coins * now.owners.get(o).share / all;
            left -= parts[o];
            order.add(o);
        }
        order.sort(Comparator.comparing(o -> -(coins * now.owners.get(o).share % all)));
        for (int i = 0; i < left; i++) {
            parts[order.get(i)]++;
        }
        return parts;
    }

    int upkeep(int coins) {
        must(coins >= 1 && coins <= 999, argument());
        must(!now.owners.isEmpty(), state());
        act();
        int[] parts = parts(coins);
        int most = 0;
        for (int o = 0; o < parts.length; o++) {
            now.owners.get(o).coins += parts[o];
            most = Math.max(most, parts[o]);
        }
        now.coins += coins;
        return most;
    }

    int ifUpkeep(int o, int coins) {
        ownerAt(o);
        must(coins >= 1 && coins <= 999, argument());
        return parts(coins)[o];
    }

    int year() {
        act();
        now.year++;
        now.offers.clear();
        now.weeks.forEach(w -> w.holder = null);
        int lapse = 0;
        for (Owner o : now.owners) {
            o.bids.clear();
            int kept = Math.min(o.points, now.settings[1]);
            lapse += o.points - kept;
            o.points = kept + now.settings[0] * o.share;
            now.given += now.settings[0] * o.share;
        }
        now.lapsed += lapse;
        return lapse;
    }

    int set(int what, int v) {
        must(what >= 0 && what <= 2, argument());
        must(v >= (what == 1 ? 0 : 1) && v <= (what == 2 ? 10 : 20), argument());
        act();
        int previous = now.settings[what];
        now.settings[what] = v;
        return previous;
    }

    int undo() {
        must(!before.isEmpty(), state());
        now = before.removeLast();
        return before.size();
    }

    /** Way 0 and 1 alike: tries all ways of giving each owner one week or none. */
    int could(int way) {
        must(way == 0 || way == 1, argument());
        return mostFrom(0, new boolean[20]);
    }

    private int mostFrom(int o, boolean[] gone) {
        if (o >= now.owners.size()) {
            return 0;
        }
        int most = mostFrom(o + 1, gone);
        int tried = 0;
        // Six weeks are enough to try for each owner: the others take five at the most.
        for (int w = 0; w < 20 && tried < 6 && most < now.owners.size() - o; w++) {
            if (why(o, w) == 0) {
                tried++;
                if (!gone[w]) {
                    gone[w] = true;
                    most = Math.max(most, 1 + mostFrom(o + 1, gone));
                    gone[w] = false;
                }
            }
        }
        return most;
    }

    int winner(int w) {
        weekAt(w);
        Model m = twin();
        Owner was = m.now.weeks.get(w).holder;
        m.settle();
        return was == null ? m.weekOf(w, 2) : -1;
    }

    int leastBid(int o, int w) {
        ownerAt(o);
        weekAt(w);
        for (int extra = 0; extra <= 20; extra++) {
            Model m = twin();
            int e = extra;
            if (succeeds(() -> m.bid(o, w, e) >= 0) && m.winner(w) == o) {
                return extra;
            }
        }
        return -1;
    }

    int runScript(int n, long script) {
        must(n >= 1 && n <= 3, argument());
        must(script >= 0 && String.valueOf(script).length() <= 6 * n, argument());
        String all = "0".repeat(6 * n - String.valueOf(script).length()) + script;
        Model m = twin();
        for (int i = 0; i < n; i++) {
            String group = all.substring(6 * i, 6 * i + 6);
            if (!succeeds(() -> m.group(group))) {
                return i;
            }
        }
        return -1;
    }

    private boolean group(String g) {
        int o = part(g, 1, 2);
        int w = part(g, 2, 4);
        int x = part(g, 4, 6);
        if (g.matches("1...00")) {
            return take(o, w) == 0;
        } else if (g.matches("2.....")) {
            return bid(o, w, x) > 0;
        } else if (g.matches("30000.")) {
            return settle() >= x;
        } else if (g.matches("4...00")) {
            return release(o, w) >= 0;
        } else if (g.matches("5.....")) {
            return offer(o, w, x) >= 0;
        } else if (g.matches("6.0000")) {
            return accept(o) == 1;
        } else if (g.matches("700000")) {
            return year() >= 0;
        } else if (g.matches("8.00..")) {
            return ownerAt(o).points >= x;
        } else if (g.matches("9...00")) {
            return weekAt(w).holder == ownerAt(o);
        }
        return false;
    }

    int simulate(long seed, int m) {
        must(m >= 1 && m <= 60, argument());
        Model copy = twin();
        long x = seed;
        for (int i = 0; i < m; i++) {
            x = x * 6364136223846793005L + 1442695040888963407L;
            int r = (int) (x >>> 33);
            succeeds(() -> copy.turn(r % 16, r / 16));
        }
        return 10000 * copy.about(2) + copy.about(7);
    }

    private boolean turn(int kind, int q) {
        int o = q % 6;
        int w = q / 8 % 20;
        switch (kind) {
            case 0: return owner(1 + q % 9) >= 0;
            case 1: return cost(q % 20, 1 + q / 32 % 9) >= 0;
            case 2: return school(q % 20, q / 32 % 2 == 1) >= 0;
            case 3: case 4: case 5: case 6: return take(o, w) == 0;
            case 7: case 8: return bid(o, w, q / 256 % 21) > 0;
            case 9: return settle() >= 0;
            case 10: return release(o, w) >= 0;
            case 11: case 12: return offer(o, w, q / 256 % 20) >= 0;
            case 13: return accept(q % 8) >= 0;
            case 14: return upkeep(1 + q % 999) >= 0;
            default: return year() >= 0;
        }
    }

    int save(int slot) {
        must(slot == 0 || slot == 1, bounds());
        slots[slot] = now.twin();
        return now.year;
    }

    int restore(int slot) {
        must(slot == 0 || slot == 1, bounds());
        must(slots[slot] != null, state());
        now = slots[slot].twin();
        before.clear();
        return now.year;
    }
}

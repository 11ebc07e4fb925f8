import java.util.function.Consumer;
import java.util.function.Function;
import java.util.function.ToIntFunction;

/** Tests of single sentences of the document, each under the number of its promise. */
final class Edges {
    interface WithNumber {
        int call(CottageWeeks x, int number);
    }

    private static final int MOST_UNDONE = 15;

    private final Check check = new Check();

    void due(int promise, String sentence, long want, long got) {
        check.due(name(promise, sentence), want, got);
    }

    void due(int promise, String sentence, String want, String got) {
        check.due(name(promise, sentence), (Object) want, got);
    }

    /** The call throws, and everything is as in a house of the same way that was not called. */
    void refused(int promise, String sentence, String exception, Consumer<CottageWeeks> way,
            ToIntFunction<CottageWeeks> call) {
        CottageWeeks x = made(way);
        check.dueThrow(name(promise, sentence), exception, () -> call.applyAsInt(x));
        sameAfter(promise, sentence, way, call);
    }

    /** The call answers, and everything is as in a house of the same way that was not called. */
    void looks(int promise, String sentence, int want, Consumer<CottageWeeks> way, ToIntFunction<CottageWeeks> call) {
        due(promise, sentence, String.valueOf(want), Check.answer(() -> call.applyAsInt(made(way))));
        sameAfter(promise, sentence, way, call);
    }

    /** Both ways leave the same. */
    void same(int promise, String sentence, Consumer<CottageWeeks> way, Consumer<CottageWeeks> other) {
        due(promise, sentence, everything(way), everything(other));
    }

    /** The last numbers that are allowed do not throw; the first that are not, and far ones, do. */
    void range(int promise, String sentence, String exception, int least, int most, Consumer<CottageWeeks> way,
            WithNumber call) {
        for (int number : new int[] {least, most}) {
            CottageWeeks x = made(way);
            String answer = Check.answer(() -> call.call(x, number));
            due(promise, sentence + ", " + number + " is allowed", "false",
                    String.valueOf(answer.endsWith("Exception")));
        }
        for (int number : new int[] {least - 1, most + 1, Integer.MIN_VALUE, Integer.MAX_VALUE}) {
            refused(promise, sentence + ", not " + number, exception, way, x -> call.call(x, number));
        }
    }

    void end() {
        check.end();
    }

    static CottageWeeks made(Consumer<CottageWeeks> way) {
        CottageWeeks x = new CottageWeeks();
        way.accept(x);
        return x;
    }

    static CottageWeeks house(int... shares) {
        return made(x -> come(x, shares));
    }

    static void come(CottageWeeks x, int... shares) {
        for (int share : shares) {
            x.owner(share);
        }
    }

    static void write(CottageWeeks x, String text) {
        for (int i = 0; i < text.length(); i++) {
            x.append(text.charAt(i));
        }
    }

    /** Something of everything: 2 owners, 2 offers, 3 bids, both slots, a text, 14 remembered states. */
    static void busy(CottageWeeks x) {
        write(x, "Co7t005k139");
        x.set(0, 6);
        x.set(1, 7);
        x.set(2, 4);
        x.owner(3);
        x.save(0);
        x.owner(5);
        x.school(10, true);
        x.school(11, true);
        x.cost(2, 8);
        x.take(0, 1);
        x.take(1, 2);
        x.take(0, 2);
        x.save(1);
        x.bid(0, 10, 4);
        x.bid(1, 10, 2);
        x.bid(1, 11, 0);
        x.offer(0, 1, 2);
        x.upkeep(50);
        x.offer(1, 2, 1);
    }

    /** All that an object holds; each look has objects of its own, as looking changes them. */
    private static String everything(Consumer<CottageWeeks> way) {
        StringBuilder all = new StringBuilder();
        for (int undone = 0; undone <= MOST_UNDONE; undone++) {
            int times = undone;
            all.append(seen(way, x -> undo(x, times)));
        }
        all.append("settings ").append(settings(made(way)));
        for (int slot = 0; slot < 2; slot++) {
            int s = slot;
            all.append("\nslot ").append(seen(way, x -> Check.answer(() -> x.restore(s))));
            all.append(settings(made(way.andThen(x -> Check.answer(() -> x.restore(s))))));
        }
        all.append("\ntext ").append(seen(way, x -> x.errorPosition() + " " + Check.answer(x::load)));
        return all.append(made(way).clearText()).toString();
    }

    /** What something more answers in an object of this way, and what the object shows then. */
    private static String seen(Consumer<CottageWeeks> way, Function<CottageWeeks, String> more) {
        String answers = more.apply(made(way));
        return answers + '\n' + Check.shown(() -> made(way.andThen(more::apply))) + '\n';
    }

    private static String undo(CottageWeeks x, int times) {
        StringBuilder left = new StringBuilder();
        for (int i = 0; i < times; i++) {
            left.append(Check.answer(x::undo)).append(' ');
        }
        return left.toString();
    }

    private static String settings(CottageWeeks x) {
        return x.set(0, 1) + " " + x.set(1, 0) + " " + x.set(2, 1);
    }

    private void sameAfter(int promise, String sentence, Consumer<CottageWeeks> way,
            ToIntFunction<CottageWeeks> call) {
        same(promise, sentence + ": everything stays as it was", way,
                way.andThen(x -> Check.answer(() -> call.applyAsInt(x))));
    }

    private static String name(int promise, String sentence) {
        return "Promise " + promise + ": " + sentence;
    }
}

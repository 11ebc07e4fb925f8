import java.util.concurrent.Callable;
import java.util.function.Supplier;

/** Counts the answers that are not due, for the tests of the project. */
final class Check {
    static final String BOUNDS = "IndexOutOfBoundsException";
    static final String ARGUMENT = "IllegalArgumentException";
    static final String STATE = "IllegalStateException";

    private int asked;
    private int wrong;

    void due(String what, long want, long got) {
        asked++;
        if (got != want) {
            wrong++;
            System.out.println(what + " answered " + got + ", due is " + want);
        }
    }

    void due(String what, Object want, Object got) {
        asked++;
        if (!want.equals(got)) {
            wrong++;
            System.out.println(what + " answered " + got + ", due is " + want);
        }
    }

    void dueThrow(String what, String want, Callable<Integer> call) {
        due(what, want, answer(call));
    }

    /** The answer as a text; the very class of what is thrown, as a subclass is the machine's. */
    static String answer(Callable<Integer> call) {
        try {
            return String.valueOf(call.call());
        } catch (Exception e) {
            return e.getClass().getSimpleName();
        }
    }

    /** Every number of an object that the face shows, but of the text and the slots. */
    static String shown(CottageWeeks x) {
        return numbersAndWeeks(x) + ownersAndOffers(x);
    }

    /** The same from two objects made alike: one alone has not calls enough for a long way and a long look. */
    static String shown(Supplier<CottageWeeks> made) {
        return numbersAndWeeks(made.get()) + ownersAndOffers(made.get());
    }

    private static String numbersAndWeeks(CottageWeeks x) {
        StringBuilder all = new StringBuilder(numbers(x));
        for (int w = 0; w < 20; w++) {
            all.append("\nw").append(w);
            for (int what = 0; what <= 4; what++) {
                all.append(' ').append(x.weekOf(w, what));
            }
        }
        return all.toString();
    }

    /** The numbers of about(). */
    static String numbers(CottageWeeks x) {
        StringBuilder all = new StringBuilder();
        for (int what = 0; what <= 13; what++) {
            all.append(x.about(what)).append(' ');
        }
        return all.toString();
    }

    private static String ownersAndOffers(CottageWeeks x) {
        StringBuilder all = new StringBuilder();
        int owners = x.about(0);
        for (int o = 0; o < owners; o++) {
            all.append("\no").append(o);
            for (int what = 0; what <= 6; what++) {
                all.append(' ').append(x.ownerOf(o, what));
            }
            for (int w = 0; w < 20; w++) {
                all.append(' ').append(x.bidOf(o, w)).append('/').append(x.why(o, w));
            }
        }
        int offers = x.about(9);
        for (int k = 0; k < offers; k++) {
            all.append("\nf").append(k);
            for (int what = 0; what <= 3; what++) {
                all.append(' ').append(x.offerOf(k, what));
            }
        }
        return all.toString();
    }

    void end() {
        System.out.println(asked + " answers asked, " + wrong + " wrong");
        if (wrong != 0) {
            System.exit(1);
        }
    }
}

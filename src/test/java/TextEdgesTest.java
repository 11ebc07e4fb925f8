/** The boundary sentences of promises 1 to 5, one by one. */
public final class TextEdgesTest {
    private static final Edges EDGES = new Edges();
    private static final String DIGITS = "0123456789";
    private static final String FROM_1 = "123456789";
    private static final String LETTERS = "okstberfauy";

    /** A text that goes on, and all signs that may come next. */
    private static final String[][] NEXT = {
        {"", "C"}, {"Co", FROM_1},
        {"Ck", "01"}, {"Ck0", DIGITS}, {"Ck1", DIGITS}, {"Ck00", FROM_1}, {"Ck19", FROM_1},
        {"Cs", "01"}, {"Cs0", DIGITS}, {"Cs1", DIGITS}, {"Cs00", "+-"}, {"Cs19", "+-"},
        {"Ct", "012345"}, {"Ct0", "01"}, {"Ct5", "01"}, {"Ct50", DIGITS}, {"Ct51", DIGITS},
        {"Cb", "012345"}, {"Cb0", "01"}, {"Cb5", "01"}, {"Cb50", DIGITS}, {"Cb51", DIGITS},
        {"Cb500", "012"}, {"Cb519", "012"}, {"Cb5190", DIGITS}, {"Cb5191", DIGITS}, {"Cb5192", "0"},
        {"Cr", "012345"}, {"Cr0", "01"}, {"Cr5", "01"}, {"Cr50", DIGITS}, {"Cr51", DIGITS},
        {"Cf", "012345"}, {"Cf0", "01"}, {"Cf5", "01"}, {"Cf50", DIGITS}, {"Cf51", DIGITS},
        {"Cf500", "01"}, {"Cf519", "01"}, {"Cf5190", DIGITS}, {"Cf5191", DIGITS},
        {"Ca", "01234567"},
        {"Cu", DIGITS}, {"Cu0", DIGITS}, {"Cu1", DIGITS}, {"Cu9", DIGITS},
        {"Cu00", FROM_1}, {"Cu01", DIGITS}, {"Cu10", DIGITS}, {"Cu90", DIGITS}, {"Cu99", DIGITS}
    };
    private static final String[] HOUSES = {
        "C", "Co1", "Co9", "Ck001", "Ck199", "Cs00+", "Cs19-", "Ct000", "Ct519", "Cb00000", "Cb51920", "Ce",
        "Cr000", "Cr519", "Cf00000", "Cf51919", "Ca0", "Ca7", "Cu001", "Cu999", "Cy", "Cyye", "Co1o1t000a0"
    };

    public static void main(String[] args) {
        newObject();
        append();
        clearText();
        textsThatEndTooSoon();
        signsThatAreAllowed();
        numbersOfTexts();
        firstError();
        fullTexts();
        loadAnswers();
        loadLeavesOut();
        loadAtTheEdges();
        loadForgets();
        loadMakesNew();
        loadThrows();
        EDGES.end();
    }

    private static void newObject() {
        CottageWeeks x = new CottageWeeks();
        EDGES.due(1, "NONE = -1", -1, CottageWeeks.NONE);
        for (int what = 0; what <= 13; what++) {
            EDGES.due(1, "no owners, points, bids, offers, coins; 20 free weeks: about " + what, what == 2 ? 20 : 0,
                    x.about(what));
        }
        for (int w = 0; w < 20; w++) {
            EDGES.due(1, "a week costs 3 at first", 3, x.weekOf(w, 0));
            EDGES.due(1, "a week is no school week at first", 0, x.weekOf(w, 1));
            EDGES.due(1, "a week is free at first", -1, x.weekOf(w, 2));
        }
        EDGES.due(1, "points for a share, at first 4", 4, x.set(0, 1));
        EDGES.due(1, "the most points carried, at first 5", 5, x.set(1, 1));
        EDGES.due(1, "the most weeks held, at first 3", 3, x.set(2, 1));
        EDGES.due(1, "the text is empty", 0, x.clearText());
        EDGES.refused(1, "there is no owner", Check.BOUNDS, y -> { }, y -> y.ownerOf(0, 0));
        EDGES.refused(1, "there is no week 20", Check.BOUNDS, y -> { }, y -> y.weekOf(20, 0));
        EDGES.refused(1, "there is no offer", Check.BOUNDS, y -> { }, y -> y.offerOf(0, 0));
        EDGES.refused(1, "no state is remembered", Check.STATE, y -> { }, CottageWeeks::undo);
        EDGES.refused(1, "nothing is saved in slot 0", Check.STATE, y -> { }, y -> y.restore(0));
        EDGES.refused(1, "nothing is saved in slot 1", Check.STATE, y -> { }, y -> y.restore(1));
    }

    private static void fill(CottageWeeks x, int length) {
        Edges.write(x, "C" + "e".repeat(length - 1));
    }

    private static void append() {
        EDGES.range(2, "c: character code, 0 to 255", Check.ARGUMENT, 0, 255, Edges::busy, CottageWeeks::append);
        EDGES.refused(2, "a code is no character of 16 bits", Check.ARGUMENT, Edges::busy, x -> x.append(65536 + 'y'));
        EDGES.due(2, "the new length, the first", 1, new CottageWeeks().append('x'));
        EDGES.due(2, "119 characters: one more", 120, Edges.made(x -> fill(x, 119)).append('e'));
        EDGES.refused(2, "120 characters: no more", Check.STATE, x -> fill(x, 120), x -> x.append('e'));
        EDGES.refused(2, "120 characters, a code out of range is told first", Check.ARGUMENT, x -> fill(x, 120),
                x -> x.append(256));
        CottageWeeks x = Edges.made(Edges::busy);
        String before = Check.shown(x);
        x.append('y');
        EDGES.due(2, "the text is not the state", before, Check.shown(x));
        EDGES.due(2, "append is no action", 13, x.undo());
    }

    private static void clearText() {
        EDGES.looks(3, "the previous length of an empty text", 0, x -> { }, CottageWeeks::clearText);
        EDGES.due(3, "the previous length, 1", 1, Edges.made(x -> fill(x, 1)).clearText());
        CottageWeeks x = Edges.made(y -> fill(y, 120));
        EDGES.due(3, "the previous length of a full text", 120, x.clearText());
        EDGES.due(3, "it is empty then", 0, x.clearText());
        EDGES.due(3, "there is place again", 1, x.append('C'));
        CottageWeeks y = Edges.made(Edges::busy);
        String before = Check.shown(y);
        y.clearText();
        EDGES.due(3, "the text is not the state", before, Check.shown(y));
        EDGES.due(3, "clearText is no action", 13, y.undo());
    }

    private static int errorOf(String text) {
        return Edges.made(x -> Edges.write(x, text)).errorPosition();
    }

    private static void textsThatEndTooSoon() {
        for (String[] row : NEXT) {
            EDGES.due(4, "it ends too soon: the length of the text " + row[0], row[0].length(), errorOf(row[0]));
        }
        for (String house : HOUSES) {
            EDGES.due(4, "NONE if it is a house: " + house, -1, errorOf(house));
        }
        EDGES.looks(4, "errorPosition changes nothing", -1, Edges::busy, CottageWeeks::errorPosition);
    }

    private static void signsThatAreAllowed() {
        for (String[] row : NEXT) {
            signsBehind(row[0], row[1]);
        }
        for (String house : HOUSES) {
            signsBehind(house, LETTERS);
        }
    }

    private static void signsBehind(String text, String allowed) {
        for (char c = 0; c <= 255; c++) {
            int error = errorOf(text + c);
            boolean isWrong = allowed.indexOf(c) < 0;
            EDGES.due(4, "the sign " + (int) c + " behind " + text + " is not allowed", isWrong ? 1 : 0,
                    error == text.length() ? 1 : 0);
        }
    }

    private static String padded(int number, int length) {
        String digits = String.valueOf(number);
        return "0".repeat(length - digits.length()) + digits;
    }

    private static void numbersOfTexts() {
        for (int n = 0; n <= 999; n++) {
            EDGES.due(4, "three digits, 001 to 999: " + n, n == 0 ? 4 : -1, errorOf("Cu" + padded(n, 3)));
        }
        for (int n = 0; n <= 99; n++) {
            String two = padded(n, 2);
            int weekError = n >= 20 ? 0 : -1;
            EDGES.due(4, "a week is two digits, 00 to 19: " + n, weekError == 0 ? 2 : -1, errorOf("Ck" + two + "1"));
            EDGES.due(4, "the second week: " + n, weekError == 0 ? 5 : -1, errorOf("Cf000" + two));
            int bidError = n >= 30 ? 5 : 6;
            EDGES.due(4, "an extra is two digits, 00 to 20: " + n, n <= 20 ? -1 : bidError, errorOf("Cb000" + two));
        }
    }

    private static void firstError() {
        EDGES.due(4, "the first of two errors", 1, errorOf("Czz"));
        EDGES.due(4, "the first, at the very start", 0, errorOf("oC"));
        EDGES.due(4, "the first, though the end is too soon also", 2, errorOf("Co0o"));
        EDGES.due(4, "an error behind many commands", 9, errorOf("Co1yeu001 yyy"));
        EDGES.due(4, "a house within a house", 2, errorOf("CyC"));
    }

    private static void fullTexts() {
        EDGES.due(4, "a house of 120 characters", -1, Edges.made(x -> fill(x, 120)).errorPosition());
        EDGES.due(4, "it ends too soon at 120", 120, errorOf("C" + "y".repeat(118) + "o"));
        EDGES.due(4, "the last of 120 is wrong", 119, errorOf("C" + "y".repeat(118) + "z"));
        EDGES.due(4, "the last of 120 is wrong in its command", 119, errorOf("C" + "y".repeat(115) + "u000"));
        EDGES.due(4, "the last command ends at 120", -1, errorOf("C" + "y".repeat(115) + "u001"));
        CottageWeeks x = Edges.made(y -> fill(y, 120));
        EDGES.due(5, "all 119 commands of a full text are done", 0, x.load());
        x.clearText();
        fill(x, 1);
        Edges.write(x, "y".repeat(119));
        EDGES.due(5, "all 119 commands of a full text are done", 0, x.load());
        EDGES.due(5, "the years of 119 commands", 119, x.about(1));
    }

    private static CottageWeeks loaded(String text) {
        CottageWeeks x = Edges.made(y -> Edges.write(y, text));
        x.load();
        return x;
    }

    private static void loadAnswers() {
        EDGES.due(5, "a house without commands", 0, Edges.made(x -> Edges.write(x, "C")).load());
        EDGES.due(5, "o is owner(), 1", 1, loaded("Co1").ownerOf(0, 0));
        EDGES.due(5, "o is owner(), 9", 9, loaded("Co9").ownerOf(0, 0));
        EDGES.due(5, "k is cost(), the last week and 9", 9, loaded("Ck199").weekOf(19, 0));
        EDGES.due(5, "k is cost(), the first week and 1", 1, loaded("Ck001").weekOf(0, 0));
        EDGES.due(5, "s and + is school()", 1, loaded("Cs19+").weekOf(19, 1));
        EDGES.due(5, "s and - is school()", 0, loaded("Cs19+s19-").weekOf(19, 1));
        EDGES.due(5, "t is take(), the sixth owner and the last week", 5, loaded("Co1o1o1o1o1o1t519").weekOf(19, 2));
        EDGES.due(5, "b is bid(), 20", 20, loaded("Co1s19+b01920").bidOf(0, 19));
        EDGES.due(5, "b is bid(), 00", 0, loaded("Co1s00+b00000").bidOf(0, 0));
        EDGES.due(5, "e is settle()", 0, loaded("Co1s00+b00000e").weekOf(0, 2));
        EDGES.due(5, "r is release()", 20, loaded("Co1t000r000").about(2));
        EDGES.due(5, "f is offer(), the first week", 19, loaded("Co1o1t019t100f01900").offerOf(0, 1));
        EDGES.due(5, "f is offer(), the other week", 0, loaded("Co1o1t019t100f01900").offerOf(0, 2));
        EDGES.due(5, "a is accept()", 1, loaded("Co1o1t019t100f01900a0").about(10));
        String eight = "Co9o9t000t101" + "f00001".repeat(8);
        EDGES.due(5, "a7 is accept(7)", 7, loaded(eight + "a7").about(9));
        EDGES.due(5, "u is upkeep(), 001", 1, loaded("Co1u001").about(13));
        EDGES.due(5, "u is upkeep(), 999", 999, loaded("Co1u999").about(13));
        EDGES.due(5, "y is year()", 2, loaded("Cyy").about(1));
    }

    private static void leftOut(String sentence, int want, String text) {
        CottageWeeks x = Edges.made(y -> Edges.write(y, text));
        EDGES.due(5, sentence, want, x.load());
        EDGES.due(5, sentence + ": refused nowhere", 0, x.about(12));
    }

    private static void loadLeavesOut() {
        String six = "Co1o1o1o1o1o1";
        leftOut("six owners come", 0, six);
        leftOut("the seventh is left out", 1, six + "o1");
        leftOut("the sixth takes", 0, six + "t519");
        leftOut("the second of one owner does not take", 1, "Co1t100");
        leftOut("the fifth of five does not bid", 1, "Co1o1o1o1o1s00+b50000");
        leftOut("a week that is held", 1, "Co9t000t000");
        leftOut("a school week", 1, "Co9s00+t000");
        leftOut("three weeks are held, no fourth", 1, "Co9t000t001t002t003");
        leftOut("three weeks are held", 0, "Co9t000t001t002");
        leftOut("fewer points than it costs", 1, "Co1k005t000");
        leftOut("just the points", 0, "Co1k004t000");
        leftOut("a bid for no school week", 1, "Co1b00000");
        leftOut("a bid for a held one", 1, "Co1t000s00+b00000");
        leftOut("a week that is not held is given back", 1, "Co1r000");
        leftOut("a week that another one holds is given back", 1, "Co1o1t000r100");
        leftOut("no week is offered", 1, "Co1o1t000f10100");
        leftOut("a week is wanted that nobody holds", 1, "Co1o1t000f00001");
        leftOut("a week is wanted of the same", 1, "Co9t000t001f00001");
        leftOut("a week is wanted for itself", 1, "Co9t000f00000");
        String eight = "Co9o9t000t101" + "f00001".repeat(8);
        leftOut("eight offers", 0, eight);
        leftOut("the ninth offer", 1, eight + "f00001");
        leftOut("the only offer is accepted", 0, "Co1o1t000t101f00001a0");
        leftOut("an offer that is not there", 1, "Co1o1t000t101f00001a1");
        leftOut("no offer is there", 1, "Ca0");
        leftOut("an offer that is void is not left out", 0, "Co1o1t000t101f00001r101a0");
        leftOut("upkeep without owners", 1, "Cu001");
        leftOut("settle and year are never left out", 0, "Ceyey");
        leftOut("several are left out", 4, "Cu001a0r000t000o1");
    }

    /** Commands that throw nowhere do the same as the calls. */
    private static void loadAtTheEdges() {
        CottageWeeks x = loaded("Co4o2k059s07+s08+t005t112b00705b10702er112f00512u100y");
        CottageWeeks y = Edges.house(4, 2);
        y.cost(5, 9);
        y.school(7, true);
        y.school(8, true);
        y.take(0, 5);
        y.take(1, 12);
        y.bid(0, 7, 5);
        y.bid(1, 7, 2);
        y.settle();
        y.release(1, 12);
        y.upkeep(100);
        y.year();
        EDGES.due(5, "it does the commands of the text", Check.shown(y), Check.shown(x));
    }

    private static void loadForgets() {
        CottageWeeks x = Edges.made(Edges::busy);
        EDGES.due(5, "the commands that are left out", 0, x.load());
        CottageWeeks y = Edges.house(7);
        y.take(0, 5);
        y.cost(13, 9);
        EDGES.due(5, "everything as in a new object, then the commands", Check.shown(y), Check.shown(x));
        EDGES.due(5, "no state is remembered", Check.STATE, Check.answer(x::undo));
        EDGES.due(5, "slot 0 is empty", Check.STATE, Check.answer(() -> x.restore(0)));
        EDGES.due(5, "slot 1 is empty", Check.STATE, Check.answer(() -> x.restore(1)));
        EDGES.due(5, "setting 0 as in a new object", 4, x.set(0, 9));
        EDGES.due(5, "setting 1 as in a new object", 5, x.set(1, 9));
        EDGES.due(5, "setting 2 as in a new object", 3, x.set(2, 9));
        EDGES.due(5, "load keeps the text", 0, x.load());
        EDGES.due(5, "the same again", Check.shown(y), Check.shown(x));
        EDGES.due(5, "the text is as long as before", 11, x.clearText());
    }

    /** Every number of the state is another one than in a new object. */
    private static void other(CottageWeeks x) {
        x.set(0, 20);
        x.set(2, 4);
        Edges.come(x, 9, 8, 7, 6, 5, 4);
        x.year();
        for (int w = 0; w < 20; w++) {
            x.cost(w, 9 - w % 2);
            x.take(w % 6, w);
        }
        x.offer(0, 0, 1);
        x.offer(0, 0, 1);
        x.accept(0);
        x.accept(0);
        x.take(0, 0);
        for (int w = 0; w < 20; w++) {
            x.release(x.weekOf(w, 2), w);
            x.school(w, true);
            x.bid(w % 6, w, 1);
        }
        x.settle();
        x.release(0, 0);
        x.bid(1, 0, 0);
        x.upkeep(999);
        x.offer(1, 1, 2);
        x.save(0);
        x.save(1);
    }

    private static void loadMakesNew() {
        for (String text : new String[] {"C", "Co9o8u100", "Co1o2o3o4o5o6u999", "Co1t000t119r000o2"}) {
            EDGES.same(5, "everything as in a new object, then " + text, x -> {
                Edges.write(x, text);
                x.load();
            }, x -> {
                other(x);
                Edges.write(x, text);
                x.load();
            });
        }
    }

    private static void loadThrows() {
        EDGES.refused(5, "the empty text is not a house", Check.STATE, x -> {
            Edges.busy(x);
            x.clearText();
        }, CottageWeeks::load);
        EDGES.refused(5, "a text that ends too soon is not a house", Check.STATE, x -> {
            Edges.busy(x);
            Edges.write(x, "o");
        }, CottageWeeks::load);
        EDGES.refused(5, "a text with one wrong sign is not a house", Check.STATE, x -> {
            Edges.busy(x);
            Edges.write(x, "o0o1");
        }, CottageWeeks::load);
        EDGES.refused(5, "a text of 120 that ends too soon is not a house", Check.STATE, x -> {
            Edges.write(x, "C" + "y".repeat(118) + "o");
            x.owner(3);
        }, CottageWeeks::load);
    }
}

/** Promises 1 to 5: a new object, the text buffer, its error position, and load. */
public final class TextTest {
    private static final Check CHECK = new Check();

    public static void main(String[] args) {
        checkNewObject();
        checkAppend();
        checkClearText();
        checkErrorPositions();
        checkEveryPrefix();
        checkLoadAnswers();
        checkLoadLeavesOut();
        checkLoadForgets();
        checkLoadThrows();
        CHECK.end();
    }

    static void write(CottageWeeks x, String text) {
        x.clearText();
        for (int i = 0; i < text.length(); i++) {
            x.append(text.charAt(i));
        }
    }

    static CottageWeeks loaded(String text) {
        CottageWeeks x = new CottageWeeks();
        write(x, text);
        x.load();
        return x;
    }

    private static void checkNewObject() {
        CottageWeeks x = new CottageWeeks();
        for (int what = 0; what <= 13; what++) {
            CHECK.due("new: about " + what, what == 2 ? 20 : 0, x.about(what));
        }
        for (int w = 0; w < 20; w++) {
            CHECK.due("new: cost", 3, x.weekOf(w, 0));
            CHECK.due("new: school", 0, x.weekOf(w, 1));
            CHECK.due("new: holder", -1, x.weekOf(w, 2));
            CHECK.due("new: bids", 0, x.weekOf(w, 3));
            CHECK.due("new: extra", -1, x.weekOf(w, 4));
        }
        CHECK.due("new: setting 0", 4, x.set(0, 4));
        CHECK.due("new: setting 1", 5, x.set(1, 5));
        CHECK.due("new: setting 2", 3, x.set(2, 3));
        CottageWeeks y = new CottageWeeks();
        CHECK.dueThrow("new: undo", Check.STATE, y::undo);
        CHECK.dueThrow("new: restore 0", Check.STATE, () -> y.restore(0));
        CHECK.dueThrow("new: restore 1", Check.STATE, () -> y.restore(1));
        CHECK.due("new: text", 0, y.clearText());
    }

    private static void checkAppend() {
        CottageWeeks x = new CottageWeeks();
        CHECK.dueThrow("append -1", Check.ARGUMENT, () -> x.append(-1));
        CHECK.dueThrow("append 256", Check.ARGUMENT, () -> x.append(256));
        CHECK.dueThrow("append far", Check.ARGUMENT, () -> x.append('C' + 65536));
        CHECK.due("append 0", 1, x.append(0));
        CHECK.due("append 255", 2, x.append(255));
        for (int i = 3; i <= 120; i++) {
            CHECK.due("append", i, x.append('C'));
        }
        CHECK.dueThrow("append to 120", Check.STATE, () -> x.append('C'));
        CHECK.dueThrow("append 256 to 120", Check.ARGUMENT, () -> x.append(256));
        CHECK.due("length", 120, x.clearText());
        CHECK.due("append again", 1, x.append('C'));
    }

    private static void checkClearText() {
        CottageWeeks x = new CottageWeeks();
        write(x, "Co3");
        CHECK.due("clearText", 3, x.clearText());
        CHECK.due("clearText twice", 0, x.clearText());
        CHECK.due("error of the empty text", 0, x.errorPosition());
        x.owner(3);
        x.clearText();
        CHECK.due("clearText keeps the state", 1, x.about(0));
        CHECK.due("the text is no action", 0, x.undo());
    }

    private static void position(String text, int want) {
        CottageWeeks x = new CottageWeeks();
        write(x, text);
        CHECK.due("errorPosition of " + text, want, x.errorPosition());
    }

    private static void checkErrorPositions() {
        position("", 0);
        position("c", 0);
        position("oC", 0);
        position("C", -1);
        position("CC", 1);
        position("C ", 1);
        position("Cz", 1);
        position("C\u00ff", 1);
        position("C\0", 1);
        position("Co", 2);
        position("Co0", 2);
        position("Co1", -1);
        position("Co9", -1);
        position("Co:", 2);
        position("Co/", 2);
        position("Co11", 3);
        position("Ck199", -1);
        position("Ck2", 2);
        position("Ck190", 4);
        position("Ck1", 3);
        position("Ck19", 4);
        position("Ck1a", 3);
        position("Cs00+", -1);
        position("Cs00-", -1);
        position("Cs00", 4);
        position("Cs00*", 4);
        position("Cs00,", 4);
        position("Cs0-", 3);
        position("Ct519", -1);
        position("Ct6", 2);
        position("Ct52", 3);
        position("Ct5", 3);
        position("Ct510", -1);
        position("Cb50000", -1);
        position("Cb50020", -1);
        position("Cb50021", 6);
        position("Cb5003", 5);
        position("Cb5001", 6);
        position("Cb50019", -1);
        position("Cb6", 2);
        position("Cb020", 3);
        position("Ceeyy", -1);
        position("Cee y", 3);
        position("Cr519", -1);
        position("Cr6", 2);
        position("Cr02", 3);
        position("Cf51919", -1);
        position("Cf51920", 5);
        position("Cf5192", 5);
        position("Cf5191", 6);
        position("Cf6", 2);
        position("Ca0", -1);
        position("Ca7", -1);
        position("Ca8", 2);
        position("Ca", 2);
        position("Cu001", -1);
        position("Cu000", 4);
        position("Cu999", -1);
        position("Cu010", -1);
        position("Cu100", -1);
        position("Cu00", 4);
        position("Cu0", 3);
        position("Cu", 2);
        position("Cu0010", 5);
        position("Cu12o", 4);
    }

    /** No prefix that ends inside a command is a house; its error position is its length. */
    private static void checkEveryPrefix() {
        String[] parts = {"C", "o7", "k129", "s11+", "s03-", "t319", "b11920", "b00009", "e", "r402",
            "f01315", "a5", "u090", "y", "u007"};
        StringBuilder text = new StringBuilder();
        for (String part : parts) {
            for (int i = 0; i < part.length(); i++) {
                position(text.toString() + part.substring(0, i), i == 0 && text.length() > 0 ? -1 : text.length() + i);
            }
            text.append(part);
        }
        position(text.toString(), -1);
        position(text + "x", text.length());
        StringBuilder full = new StringBuilder("C");
        while (full.length() < 120) {
            full.append('e');
        }
        position(full.toString(), -1);
        full.setCharAt(119, 'o');
        position(full.toString(), 120);
    }

    private static void checkLoadAnswers() {
        CottageWeeks x = new CottageWeeks();
        write(x, "C");
        CHECK.due("load of C", 0, x.load());
        write(x, "Co4o2k059s07+s08+s08-t005t112b00705b10702er112f00512");
        CHECK.due("load", 1, x.load());
        CHECK.due("owners", 2, x.about(0));
        CHECK.due("share", 4, x.ownerOf(0, 0));
        CHECK.due("cost", 9, x.weekOf(5, 0));
        CHECK.due("school", 1, x.weekOf(7, 1));
        CHECK.due("no school", 0, x.weekOf(8, 1));
        CHECK.due("holder", 0, x.weekOf(5, 2));
        CHECK.due("given back", -1, x.weekOf(12, 2));
        CHECK.due("settled", 0, x.weekOf(7, 3));
        CHECK.due("won", 1, x.weekOf(7, 2));
        CHECK.due("text is kept", 52, x.clearText());
        write(x, "Co4o2s07+t005t112b00720f00512a0u100y");
        CHECK.due("load", 0, x.load());
        CHECK.due("year", 1, x.about(1));
        CHECK.due("swaps", 1, x.about(10));
        CHECK.due("coins", 100, x.about(13));
        write(x, "Co4o2t005t112f00512");
        CHECK.due("load", 0, x.load());
        CHECK.due("offers", 1, x.about(9));
        CHECK.due("offered week", 5, x.offerOf(0, 1));
        CHECK.due("wanted week", 12, x.offerOf(0, 2));
        write(x, "Co4s07+b00713b00711");
        CHECK.due("load", 0, x.load());
        CHECK.due("bid", 11, x.bidOf(0, 7));
    }

    private static void leftOut(String text, int want) {
        CottageWeeks x = new CottageWeeks();
        write(x, text);
        CHECK.due("left out of " + text, want, x.load());
        CHECK.due("refused by " + text, 0, x.about(12));
    }

    private static void checkLoadLeavesOut() {
        leftOut("Co1o1o1o1o1o1o1", 1);
        leftOut("Ct000", 1);
        leftOut("Co1t000t001", 1);
        leftOut("Co9t000t100t000", 2);
        leftOut("Co9s00+t000", 1);
        leftOut("Co9t000t001t002t003", 1);
        leftOut("Cr000", 1);
        leftOut("Co1r000", 1);
        leftOut("Co1b00000", 1);
        leftOut("Cs00+b00000", 1);
        leftOut("Co9t000s00+b00000", 1);
        leftOut("Ca0", 1);
        leftOut("Cf00001", 1);
        leftOut("Co9o9t000t101r101f00001", 1);
        leftOut("Co9o9t000t101f00001r101a0a0", 1);
        leftOut("Cu100", 1);
        leftOut("Co9u100", 0);
        leftOut("Ceyk001", 0);
    }

    private static void checkLoadForgets() {
        CottageWeeks x = new CottageWeeks();
        x.owner(2);
        x.take(0, 0);
        x.set(0, 9);
        x.set(1, 9);
        x.set(2, 9);
        x.save(0);
        x.save(1);
        write(x, "Co5");
        x.load();
        CHECK.due("owners after load", 1, x.about(0));
        CHECK.due("points after load", 20, x.about(7));
        CHECK.due("free weeks after load", 20, x.about(2));
        CHECK.dueThrow("undo after load", Check.STATE, x::undo);
        CHECK.dueThrow("restore after load", Check.STATE, () -> x.restore(0));
        CHECK.dueThrow("restore after load", Check.STATE, () -> x.restore(1));
        CHECK.due("setting 1 after load", 5, x.set(1, 5));
        CHECK.due("setting 2 after load", 3, x.set(2, 3));
        CHECK.due("text stays", 0, x.errorPosition() + 1);
        CHECK.due("load again", 0, x.load());
        CHECK.due("owners after load again", 1, x.about(0));
    }

    private static void checkLoadThrows() {
        CottageWeeks x = new CottageWeeks();
        x.owner(2);
        x.save(1);
        String before = Check.shown(x);
        write(x, "Co5o");
        CHECK.dueThrow("load of no house", Check.STATE, x::load);
        CHECK.due("nothing is changed", before, Check.shown(x));
        CHECK.due("the slot is kept", 0, x.save(0) + x.restore(1));
        x.owner(3);
        CHECK.dueThrow("load of no house", Check.STATE, x::load);
        CHECK.due("undo stays", 0, x.undo());
        CHECK.due("the text is kept", 4, x.clearText());
        CHECK.dueThrow("load of nothing", Check.STATE, x::load);
    }
}

/** Promises 1 to 9: a new object, and all that is told before link(). */
final class ToldTest {
    private static final int NONE = SectionGarden.NONE;
    private static final int UNKNOWN = SectionGarden.UNKNOWN;
    private static final int OUTSIDE = SectionGarden.OUTSIDE;
    private static final int STATE = SectionGarden.STATE;
    private static final int ROOM = SectionGarden.ROOM;

    private static final Due due = new Due("told");

    public static void main(String[] args) {
        newObject();
        objects();
        sections();
        roomForSections();
        patches();
        marks();
        symbols();
        relocations();
        relocationsAtTheEdge();
        roots();
        bases();
        whatIsToldTakesTheImageAway();
        whatIsRefusedLeavesTheImage();
        due.end();
    }

    private static void newObject() {
        SectionGarden x = new SectionGarden();
        for (int what = 0; what <= 8; what++) {
            due.is("new: count(" + what + ")", x.count(what), 0);
        }
        due.is("new: fault()", x.fault(), NONE);
        due.is("new: octet(4096)", x.octet(4096), STATE);
        due.is("new: section(0, 0, 1, 0, 0)", x.section(0, 0, 1, 0, 0), UNKNOWN);
        due.isIllegalState("new: range(0, false)", () -> x.range(0, false));
        due.isIndexOutOfBounds("new: place(0)", () -> x.place(0));
        due.isIndexOutOfBounds("new: value(0)", () -> x.value(0));
        due.is("new: base(3, NONE)", x.base(3, NONE), NONE);
        due.is("new: link(true)", x.link(true), 0);
        due.is("new: range(0, false)", x.range(0, false), 4096);
        due.is("new: range(3, true)", x.range(3, true), 4096);
        due.is("new: count(7)", x.count(7), 1);
    }

    private static void objects() {
        SectionGarden x = new SectionGarden();
        for (int i = 0; i < 12; i++) {
            due.is("object()", x.object(), i);
        }
        due.is("object() 12", x.object(), ROOM);
        due.is("count(0)", x.count(0), 12);
        due.is("section(11, ..)", x.section(11, 0, 1, 0, 0), 0);
        due.is("section(12, ..)", x.section(12, 0, 1, 0, 0), UNKNOWN);
    }

    private static void sections() {
        SectionGarden x = Gardens.withObjects(2);
        due.is("section(2, 0, 1, 0, 0)", x.section(2, 0, 1, 0, 0), UNKNOWN);
        due.is("section(-1, 0, 1, 0, 0)", x.section(-1, 0, 1, 0, 0), UNKNOWN);
        due.is("section(2, 9, 1, 0, 0)", x.section(2, 9, 1, 0, 0), UNKNOWN);
        due.is("kind -1", x.section(0, -1, 1, 0, 0), OUTSIDE);
        due.is("kind 4", x.section(0, 4, 1, 0, 0), OUTSIDE);
        due.is("size -1", x.section(0, 0, -1, 0, 0), OUTSIDE);
        due.is("size 20001", x.section(0, 0, 20001, 0, 0), OUTSIDE);
        due.is("align -1", x.section(0, 0, 1, -1, 0), OUTSIDE);
        due.is("align 9", x.section(0, 0, 1, 9, 0), OUTSIDE);
        due.is("align 8", x.section(0, 0, 0, 8, 0), 0);
        due.is("size 20000", x.section(1, 3, 20000, 0, 0), 1);
        due.is("seed 250", x.section(1, 1, 300, 0, 250), 2);
        due.is("seed most", x.section(1, 2, 3, 0, Integer.MAX_VALUE), 3);
        due.is("byte 5", x.patch(2, 5, 0), 255);
        due.is("byte 6", x.patch(2, 6, 0), 0);
        due.is("byte 299", x.patch(2, 299, 0), 37);
        due.is("byte 0 of the most", x.patch(3, 0, 0), 255);
        due.is("byte 2 of the most", x.patch(3, 2, 0), 1);
        due.is("count(1)", x.count(1), 4);
    }

    private static void roomForSections() {
        SectionGarden x = Gardens.withObjects(1);
        due.is("20000", x.section(0, 0, 20000, 0, 0), 0);
        due.is("40000", x.section(0, 3, 20000, 0, 0), 1);
        due.is("59999", x.section(0, 2, 19999, 0, 0), 2);
        due.is("60001", x.section(0, 3, 2, 0, 0), ROOM);
        due.is("60000", x.section(0, 1, 1, 0, 0), 3);
        due.is("one more", x.section(0, 1, 1, 0, 0), ROOM);
        due.is("OUTSIDE comes before ROOM", x.section(0, 1, 20001, 0, 0), OUTSIDE);
        for (int i = 4; i < 60; i++) {
            due.is("empty one", x.section(0, i % 4, 0, 0, 0), i);
        }
        due.is("section 60", x.section(0, 0, 0, 0, 0), ROOM);
        due.is("count(1)", x.count(1), 60);
    }

    private static void patches() {
        SectionGarden x = Gardens.withObjects(1);
        x.section(0, 0, 4, 0, 7);
        x.section(0, 3, 4, 0, 7);
        due.is("patch(0, 1, 300)", x.patch(0, 1, 300), 8);
        due.is("patch(0, 1, -1)", x.patch(0, 1, -1), 44);
        due.is("patch(0, 1, 5)", x.patch(0, 1, 5), 255);
        due.is("patch(0, 3, 0)", x.patch(0, 3, 0), 10);
        due.is("patch(0, 0, 0)", x.patch(0, 0, 0), 7);
        due.is("patch(0, 4, 0)", x.patch(0, 4, 0), OUTSIDE);
        due.is("patch(0, -1, 0)", x.patch(0, -1, 0), OUTSIDE);
        due.is("patch(1, 0, 0) of zeros", x.patch(1, 0, 0), UNKNOWN);
        due.is("patch(1, 9, 0) of zeros", x.patch(1, 9, 0), UNKNOWN);
        due.is("patch(2, 0, 0)", x.patch(2, 0, 0), UNKNOWN);
        due.is("patch(-1, 0, 0)", x.patch(-1, 0, 0), UNKNOWN);
    }

    private static void marks() {
        SectionGarden x = Gardens.withObjects(1);
        x.section(0, 3, 4, 0, 7);
        due.is("KEEP", x.mark(0, 0, 1), 0);
        due.is("KEEP once more", x.mark(0, 0, 1), 1);
        due.is("KEEP no more", x.mark(0, 0, 0), 1);
        due.is("KEEP 2", x.mark(0, 0, 2), OUTSIDE);
        due.is("KEEP NONE", x.mark(0, 0, NONE), OUTSIDE);
        due.is("KEEP is 0", x.mark(0, 0, 0), 0);
        due.is("SET 7", x.mark(0, 1, 7), NONE);
        due.is("SET 8", x.mark(0, 1, 8), OUTSIDE);
        due.is("SET -2", x.mark(0, 1, -2), OUTSIDE);
        due.is("SET NONE", x.mark(0, 1, NONE), 7);
        due.is("SET 0", x.mark(0, 1, 0), NONE);
        due.is("GROUP 15", x.mark(0, 2, 15), NONE);
        due.is("GROUP 16", x.mark(0, 2, 16), OUTSIDE);
        due.is("GROUP -2", x.mark(0, 2, -2), OUTSIDE);
        due.is("GROUP NONE", x.mark(0, 2, NONE), 15);
        due.is("SET is 0", x.mark(0, 1, 1), 0);
        due.is("what 3", x.mark(0, 3, 0), OUTSIDE);
        due.is("what -1", x.mark(0, -1, 0), OUTSIDE);
        due.is("section 1", x.mark(1, 0, 1), UNKNOWN);
        due.is("section 1, what 9", x.mark(1, 9, 1), UNKNOWN);
        due.is("section -1", x.mark(-1, 0, 1), UNKNOWN);
    }

    private static void symbols() {
        SectionGarden x = Gardens.withObjects(2);
        due.is("no section yet", x.symbol(0, 0, 0, 0, 1), UNKNOWN);
        x.section(0, 0, 4, 0, 0);
        x.section(1, 3, 4, 0, 0);
        due.is("another's first section", x.symbol(1, 0, 0, 0, 1), UNKNOWN);
        due.is("at the end", x.symbol(0, 63, 0, 4, 0), 0);
        due.is("of zeros", x.symbol(1, 0, 1, 0, 2), 1);
        due.is("undefined GLOBAL", x.symbol(0, 0, NONE, 0, 1), 2);
        due.is("undefined WEAK", x.symbol(0, 0, NONE, 0, 2), 3);
        due.is("START of 7", x.symbol(0, 0, -9, 0, 0), 4);
        due.is("STOP of 0", x.symbol(0, 0, -10, 0, 0), 5);
        due.is("STOP of 7", x.symbol(0, 0, -17, 0, 0), 6);
        due.is("object 2", x.symbol(2, 0, 0, 0, 0), UNKNOWN);
        due.is("object -1", x.symbol(-1, 0, NONE, 0, 1), UNKNOWN);
        due.is("another's section", x.symbol(0, 0, 1, 0, 0), UNKNOWN);
        due.is("another's section, name 64", x.symbol(0, 64, 1, 0, 0), UNKNOWN);
        due.is("section 2", x.symbol(0, 0, 2, 0, 0), UNKNOWN);
        due.is("section -18", x.symbol(0, 0, -18, 0, 0), UNKNOWN);
        due.is("section least", x.symbol(0, 0, Integer.MIN_VALUE, 0, 0), UNKNOWN);
        due.is("name 64", x.symbol(0, 64, 0, 0, 0), OUTSIDE);
        due.is("name -1", x.symbol(0, -1, 0, 0, 0), OUTSIDE);
        due.is("offset 5", x.symbol(0, 0, 0, 5, 0), OUTSIDE);
        due.is("offset -1", x.symbol(0, 0, 0, -1, 0), OUTSIDE);
        due.is("offset without a section", x.symbol(0, 0, NONE, 1, 1), OUTSIDE);
        due.is("offset of a set", x.symbol(0, 0, -2, 1, 0), OUTSIDE);
        due.is("sort 3", x.symbol(0, 0, 0, 0, 3), OUTSIDE);
        due.is("sort -1", x.symbol(0, 0, 0, 0, -1), OUTSIDE);
        due.is("undefined LOCAL", x.symbol(0, 0, NONE, 0, 0), OUTSIDE);
        due.is("undefined sort 3", x.symbol(0, 0, NONE, 0, 3), OUTSIDE);
        due.is("START, GLOBAL", x.symbol(0, 0, -2, 0, 1), OUTSIDE);
        due.is("STOP, WEAK", x.symbol(0, 0, -10, 0, 2), OUTSIDE);
        for (int i = 7; i < 120; i++) {
            due.is("symbol " + i, x.symbol(0, 0, 0, 0, 0), i);
        }
        due.is("symbol 120", x.symbol(0, 0, 0, 0, 0), ROOM);
        due.is("symbol 120, name 64", x.symbol(0, 64, 0, 0, 0), OUTSIDE);
        due.is("count(2)", x.count(2), 120);
    }

    private static void relocations() {
        SectionGarden x = Gardens.withObjects(2);
        x.section(0, 0, 8, 0, 0);
        x.section(0, 3, 8, 0, 0);
        x.section(0, 1, 8, 0, 0);
        x.section(1, 2, 8, 0, 0);
        x.symbol(0, 0, 0, 0, 1);
        x.symbol(1, 0, 3, 0, 0);
        due.is("of zeros", x.relocation(1, 0, 0, 0, 0), UNKNOWN);
        due.is("section 4", x.relocation(4, 0, 0, 0, 0), UNKNOWN);
        due.is("section -1", x.relocation(-1, 0, 0, 0, 0), UNKNOWN);
        due.is("symbol 2", x.relocation(0, 0, 0, 2, 0), UNKNOWN);
        due.is("symbol -1", x.relocation(0, 0, 0, -1, 0), UNKNOWN);
        due.is("another's symbol", x.relocation(0, 0, 0, 1, 0), UNKNOWN);
        due.is("another's symbol, type 9", x.relocation(0, 0, 9, 1, 0), UNKNOWN);
        due.is("type 5", x.relocation(0, 0, 5, 0, 0), OUTSIDE);
        due.is("type -1", x.relocation(0, 0, -1, 0, 0), OUTSIDE);
        due.is("BRANCH of constants", x.relocation(2, 0, 3, 0, 0), OUTSIDE);
        due.is("BRANCH of data", x.relocation(3, 0, 3, 1, 0), OUTSIDE);
        for (int i = 0; i < 200; i++) {
            due.is("relocation " + i, x.relocation(0, 0, i % 5, 0, i), i);
        }
        due.is("relocation 200", x.relocation(0, 0, 0, 0, 0), ROOM);
        due.is("relocation 200, offset 9", x.relocation(0, 9, 0, 0, 0), OUTSIDE);
        due.is("count(3)", x.count(3), 200);
    }

    private static void relocationsAtTheEdge() {
        int[] widths = {4, 2, 4, 2, 1};
        SectionGarden x = Gardens.withObjects(1);
        x.section(0, 0, 8, 0, 0);
        x.symbol(0, 0, 0, 0, 1);
        for (int type = 0; type < 5; type++) {
            int last = 8 - widths[type];
            due.is("last offset of type " + type, x.relocation(0, last, type, 0, 0), type);
            due.is("behind that of type " + type, x.relocation(0, last + 1, type, 0, 0), OUTSIDE);
            due.is("offset -1 of type " + type, x.relocation(0, -1, type, 0, 0), OUTSIDE);
            due.is("largest offset of type " + type, x.relocation(0, Integer.MAX_VALUE, type, 0, 0), OUTSIDE);
        }
    }

    private static void roots() {
        SectionGarden x = new SectionGarden();
        due.is("root(64)", x.root(64), OUTSIDE);
        due.is("root(-1)", x.root(-1), OUTSIDE);
        for (int i = 1; i <= 8; i++) {
            due.is("root", x.root(i < 5 ? 0 : 63), i);
        }
        due.is("root(0), the ninth", x.root(0), ROOM);
        due.is("root(64), the ninth", x.root(64), OUTSIDE);
        due.is("count(4)", x.count(4), 8);
    }

    private static void bases() {
        SectionGarden x = new SectionGarden();
        due.is("base(0, 0)", x.base(0, 0), NONE);
        due.is("base(0, 2000000000)", x.base(0, 2000000000), 0);
        due.is("base(0, NONE)", x.base(0, NONE), 2000000000);
        due.is("base(3, 5)", x.base(3, 5), NONE);
        due.is("base(0, 2000000001)", x.base(0, 2000000001), OUTSIDE);
        due.is("base(0, -2)", x.base(0, -2), OUTSIDE);
        due.is("base(4, 0)", x.base(4, 0), OUTSIDE);
        due.is("base(-1, 0)", x.base(-1, 0), OUTSIDE);
        due.is("base(3, NONE)", x.base(3, NONE), 5);
        due.is("base(0, 1)", x.base(0, 1), NONE);
        due.is("link(false)", x.link(false), 0);
        due.is("range(0, false)", x.range(0, false), 1);
    }

    /** One section and one symbol, linked. */
    private static SectionGarden linked() {
        SectionGarden x = Gardens.withObjects(1);
        x.section(0, 0, 4, 0, 0);
        x.symbol(0, 0, 0, 0, 1);
        x.mark(0, 0, 1);
        due.is("link(false)", x.link(false), 0);
        due.is("octet(4096)", x.octet(4096), 0);
        due.is("count(5)", x.count(5), 1);
        return x;
    }

    private static int tell(SectionGarden x, int call) {
        switch (call) {
            case 0: return x.object();
            case 1: return x.section(0, 0, 0, 0, 0);
            case 2: return x.patch(0, 0, 0);
            case 3: return x.mark(0, 0, 1);
            case 4: return x.symbol(0, 1, 0, 0, 1);
            case 5: return x.relocation(0, 0, 0, 0, 0);
            case 6: return x.root(0);
            default: return x.base(2, NONE);
        }
    }

    private static void whatIsToldTakesTheImageAway() {
        for (int call = 0; call < 8; call++) {
            SectionGarden x = linked();
            tell(x, call);
            String since = "since told " + call + ": ";
            due.is(since + "octet(4096)", x.octet(4096), STATE);
            due.is(since + "kept(0, 0)", x.kept(0, 0), STATE);
            due.is(since + "veneers(0)", x.veneers(0), STATE);
            due.isIllegalState(since + "place(0)", () -> x.place(0));
            due.isIllegalState(since + "value(0)", () -> x.value(0));
            due.isIllegalState(since + "range(0, true)", () -> x.range(0, true));
            for (int what = 5; what <= 8; what++) {
                due.is(since + "count(" + what + ")", x.count(what), 0);
            }
            due.is(since + "link(false)", x.link(false), 0);
            due.is(since + "place(0)", x.place(0), 4096);

            SectionGarden y = linked();
            y.section(0, 0, 0, 0, 0);
            y.symbol(0, 0, 1, 0, 1);
            due.is("link(true)", y.link(true), 1);
            due.is("fault()", y.fault(), 1);
            tell(y, call);
            due.is(since + "fault()", y.fault(), NONE);
        }
    }

    private static void whatIsRefusedLeavesTheImage() {
        SectionGarden x = linked();
        x.section(1, 0, 0, 0, 0);
        x.section(0, 4, 0, 0, 0);
        x.patch(0, 4, 0);
        x.mark(0, 0, 2);
        x.symbol(0, 64, 0, 0, 0);
        x.relocation(0, 1, 0, 0, 0);
        x.root(64);
        x.base(4, 0);
        due.is("octet(4096) behind refusals", x.octet(4096), 0);
        due.is("kept(0, 0) behind refusals", x.kept(0, 0), 1);
    }
}

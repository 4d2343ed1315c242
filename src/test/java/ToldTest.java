/** Promises 2 to 9 in ordinary use, and that whatever is told takes the image away; EdgeToldTest has the bounds. */
final class ToldTest {
    private static final int NONE = SectionGarden.NONE;
    private static final int STATE = SectionGarden.STATE;

    private static final Due due = new Due("told");

    public static void main(String[] args) {
        allIsNumberedAsItComes();
        whatItWas();
        whatIsToldIsLinked();
        for (int call = 0; call < CALLS.length; call++) {
            takesTheImageAway(call);
            takesTheFaultAway(call);
        }
        due.end();
    }

    private static void allIsNumberedAsItComes() {
        SectionGarden x = new SectionGarden();
        for (int i = 0; i < 3; i++) {
            due.is("object()", x.object(), i);
            due.is("section(..)", x.section(i, 2 - i, 8, 0, 0), i);
        }
        for (int i = 0; i < 6; i++) {
            due.is("symbol(..)", x.symbol(i % 3, i, i % 3, 0, i / 3), i);
            due.is("relocation(..)", x.relocation(i % 3, 4 * (i / 3), 0, i, 0), i);
        }
        due.is("root(4)", x.root(4), 1);
        due.is("root(3)", x.root(3), 2);
        int[] counts = {3, 3, 6, 6, 2, 0, 0, 0, 0};
        for (int what = 0; what < counts.length; what++) {
            due.is("count(" + what + ")", x.count(what), counts[what]);
        }
    }

    private static void whatItWas() {
        SectionGarden x = Gardens.withObjects(1);
        x.section(0, 0, 8, 0, 7);
        due.is("patch", x.patch(0, 3, 99), 10);
        due.is("patch again", x.patch(0, 3, 0), 99);
        due.is("KEEP", x.mark(0, 0, 1), 0);
        due.is("KEEP again", x.mark(0, 0, 0), 1);
        due.is("SET", x.mark(0, 1, 4), NONE);
        due.is("SET again", x.mark(0, 1, 2), 4);
        due.is("GROUP", x.mark(0, 2, 12), NONE);
        due.is("GROUP again", x.mark(0, 2, NONE), 12);
        due.is("base", x.base(1, 500), NONE);
        due.is("base again", x.base(1, NONE), 500);
    }

    private static void whatIsToldIsLinked() {
        SectionGarden x = Gardens.keeping(2, 4, 0, 6);
        x.patch(1, 5, 200);
        x.base(2, 9000);
        x.relocation(0, 0, 0, x.symbol(0, 1, 1, 6, 0), 1);
        due.is("link(true)", x.link(true), 0);
        due.is("the patch", x.octet(4101), 200);
        due.is("the place", x.place(0), 9000);
        due.is("the relocation", Gardens.numberAt(x, 9000, 4), 4096 + 6 + 1);
    }

    private static final String[] CALLS = {
        "object", "section", "patch", "mark", "symbol", "relocation", "root", "base"};

    /** Tells something, as far as it can be what was told before. */
    private static int tell(SectionGarden x, int call) {
        switch (call) {
            case 0: return x.object();
            case 1: return x.section(0, 0, 0, 0, 0);
            case 2: return x.patch(0, 0, 0);
            case 3: return x.mark(0, 0, 1);
            case 4: return x.symbol(0, 1, 0, 0, 1);
            case 5: return x.relocation(0, 0, 0, 0, 0);
            case 6: return x.root(0);
            default: return x.base(2, NONE);
        }
    }

    /** '(Whatever is told from here to root() takes the image away.)', base: 'It counts as told, too.' */
    private static void takesTheImageAway(int call) {
        SectionGarden x = Gardens.keeping(0, 4);
        x.symbol(0, 0, 0, 0, 1);
        due.is("link(false)", x.link(false), 0);
        due.is("octet(4096)", x.octet(4096), 0);
        tell(x, call);
        String since = "since " + CALLS[call] + ": ";
        due.is(since + "octet(4096)", x.octet(4096), STATE);
        due.is(since + "kept(0, 0)", x.kept(0, 0), STATE);
        due.is(since + "veneers(0)", x.veneers(0), STATE);
        due.isIllegalState(since + "place(0)", () -> x.place(0));
        due.isIllegalState(since + "value(0)", () -> x.value(0));
        due.isIllegalState(since + "range(0, true)", () -> x.range(0, true));
        for (int what = 5; what <= 8; what++) {
            due.is(since + "count(" + what + ")", x.count(what), 0);
        }
        due.is(since + "link(false)", x.link(false), 0);
        due.is(since + "place(0)", x.place(0), 4096);
    }

    private static void takesTheFaultAway(int call) {
        SectionGarden x = Gardens.keeping(0, 4, 0, 0);
        x.symbol(0, 0, 0, 0, 1);
        x.symbol(0, 0, 1, 0, 1);
        due.is("link(true)", x.link(true), 1);
        due.is("fault()", x.fault(), 1);
        tell(x, call);
        due.is("since " + CALLS[call] + ": fault()", x.fault(), NONE);
    }
}

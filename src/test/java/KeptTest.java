/** Promises 10 to 12 and 18: link() with its faults up to kind 4, what is KEPT, LOST and FOLDED, and the counts. */
final class KeptTest {
    private static final int NONE = SectionGarden.NONE;
    private static final int UNKNOWN = SectionGarden.UNKNOWN;
    private static final int OUTSIDE = SectionGarden.OUTSIDE;
    private static final int STATE = SectionGarden.STATE;
    private static final int BRANCH = 3;

    private static final Due due = new Due("kept");

    public static void main(String[] args) {
        wrongCalls();
        rowsInOrder();
        groupsToldTwice();
        setsComeWhole();
        definitions();
        twoGlobals();
        rootsNowhere();
        relocationsNowhere();
        relocationsIntoLost();
        firstKindOfFault();
        foldingOfPlainTwins();
        whatMayNotBeFolded();
        whatIsNotAlike();
        likeTargets();
        foldingOfCircles();
        foldingInChains();
        foldedIsFoundWithFaults();
        counts();
        due.end();
    }

    private static void dueKept(SectionGarden x, int section, int row, int by) {
        due.is("kept(" + section + ", 0)", x.kept(section, 0), row == NONE ? 0 : 1);
        due.is("kept(" + section + ", 1)", x.kept(section, 1), by);
        due.is("kept(" + section + ", 4)", x.kept(section, 4), row);
    }

    private static void dueLink(SectionGarden x, String what, boolean fold, int kind, int number) {
        due.is(what + ": link(" + fold + ")", x.link(fold), kind);
        due.is(what + ": fault()", x.fault(), number);
    }

    private static void wrongCalls() {
        SectionGarden x = Gardens.withObjects(1);
        x.section(0, 0, 4, 0, 0);
        due.is("before any link()", x.kept(0, 0), STATE);
        due.is("no such section", x.kept(1, 0), UNKNOWN);
        due.is("no such section, what 9", x.kept(-1, 9), UNKNOWN);
        due.is("what 5 before any link()", x.kept(0, 5), OUTSIDE);
        due.is("what -1 before any link()", x.kept(0, -1), OUTSIDE);
        dueLink(x, "one section", true, 0, NONE);
        dueKept(x, 0, NONE, NONE);
        due.is("FOLDED", x.kept(0, 2), NONE);
        due.is("LOST", x.kept(0, 3), 0);
        due.is("what 5", x.kept(0, 5), OUTSIDE);
    }

    private static void rowsInOrder() {
        SectionGarden x = Gardens.withObjects(2);
        for (int i = 0; i < 8; i++) {
            x.section(i == 7 ? 1 : 0, 2, 8, 0, i);
        }
        x.mark(5, 0, 1);
        x.mark(2, 0, 1);
        int two = x.symbol(0, 2, 2, 0, 1);
        int six = x.symbol(0, 6, 6, 0, 0);
        int seven = x.symbol(0, 7, NONE, 0, 1);
        x.symbol(1, 7, 7, 0, 2);
        x.symbol(0, 4, 4, 0, 1);
        x.relocation(5, 0, 0, two, 0);
        x.relocation(2, 4, 0, seven, 0);
        x.relocation(2, 0, 0, six, 0);
        x.mark(2, 2, 9);
        x.mark(0, 2, 9);
        x.mark(3, 2, 9);
        x.root(4);
        x.root(2);
        dueLink(x, "rows", false, 0, NONE);
        dueKept(x, 2, 0, NONE);
        dueKept(x, 5, 1, NONE);
        dueKept(x, 4, 2, NONE);
        dueKept(x, 7, 3, 2);
        dueKept(x, 6, 4, 2);
        dueKept(x, 0, 5, 2);
        dueKept(x, 3, 6, 2);
        dueKept(x, 1, NONE, NONE);
        due.is("count(5)", x.count(5), 7);
        x.mark(2, 2, NONE);
        x.mark(6, 0, 1);
        dueLink(x, "rows found anew", false, 0, NONE);
        dueKept(x, 0, NONE, NONE);
        dueKept(x, 6, 2, NONE);
        dueKept(x, 4, 3, NONE);
        dueKept(x, 7, 4, 2);
        due.is("count(5)", x.count(5), 5);
    }

    private static void groupsToldTwice() {
        SectionGarden x = Gardens.withObjects(3);
        x.section(1, 0, 4, 0, 0);
        x.section(0, 0, 4, 0, 0);
        x.section(0, 1, 4, 0, 0);
        x.section(2, 2, 4, 0, 0);
        x.section(1, 2, 4, 0, 0);
        x.mark(0, 2, 3);
        x.mark(1, 2, 3);
        x.mark(2, 2, 3);
        x.mark(3, 2, 3);
        x.mark(0, 0, 1);
        x.mark(1, 0, 1);
        dueLink(x, "groups", false, 0, NONE);
        int[] lost = {1, 0, 0, 1, 0};
        for (int i = 0; i < 5; i++) {
            due.is("kept(" + i + ", 3)", x.kept(i, 3), lost[i]);
        }
        dueKept(x, 0, NONE, NONE);
        dueKept(x, 1, 0, NONE);
        dueKept(x, 2, 1, 1);
        dueKept(x, 3, NONE, NONE);
        dueKept(x, 4, NONE, NONE);
    }

    private static void setsComeWhole() {
        SectionGarden x = Gardens.withObjects(2);
        x.section(0, 2, 4, 0, 0);
        for (int i = 1; i < 5; i++) {
            x.section(i % 2, 2, 4, 0, 0);
            x.mark(i, 1, i == 4 ? 6 : 5);
        }
        x.mark(2, 2, 0);
        x.mark(3, 2, 0);
        int stop = x.symbol(0, 0, -15, 0, 0);
        x.relocation(0, 0, 0, stop, 0);
        x.mark(0, 0, 1);
        dueLink(x, "sets", true, 0, NONE);
        dueKept(x, 0, 0, NONE);
        dueKept(x, 1, 1, 0);
        dueKept(x, 2, 2, 0);
        dueKept(x, 3, NONE, NONE);
        dueKept(x, 4, NONE, NONE);
        due.is("3 is LOST", x.kept(3, 3), 1);
    }

    private static void definitions() {
        SectionGarden x = Gardens.withObjects(3);
        for (int i = 0; i < 3; i++) {
            x.section(i, 2, 8, 0, 0);
        }
        int weak = x.symbol(0, 5, 0, 1, 2);
        x.symbol(1, 5, 1, 2, 2);
        int local = x.symbol(2, 5, 2, 3, 0);
        x.mark(0, 0, 1);
        x.mark(1, 0, 1);
        x.mark(2, 0, 1);
        int used = x.symbol(2, 5, NONE, 0, 1);
        dueLink(x, "two WEAK ones", false, 0, NONE);
        due.is("the first WEAK one", x.value(used), 4097);
        due.is("LOCAL", x.value(local), 4112 + 3);
        int global = x.symbol(2, 5, 2, 4, 1);
        dueLink(x, "a GLOBAL one", false, 0, NONE);
        due.is("the GLOBAL one for the undefined", x.value(used), 4116);
        due.is("the GLOBAL one for the WEAK", x.value(weak), 4116);
        due.is("the GLOBAL one", x.value(global), 4116);
        x.mark(1, 2, 1);
        x.mark(2, 2, 1);
        x.mark(2, 0, 0);
        dueLink(x, "the GLOBAL one is LOST", false, 0, NONE);
        due.is("the WEAK one for the LOST", x.value(global), 4097);
        due.isIllegalState("LOCAL of the LOST", () -> x.value(local));
    }

    private static void twoGlobals() {
        SectionGarden x = Gardens.withObjects(2);
        x.section(0, 2, 8, 0, 0);
        x.section(1, 2, 8, 0, 0);
        x.symbol(0, 1, 0, 0, 1);
        x.symbol(0, 2, 0, 0, 1);
        x.symbol(0, 1, 0, 0, 2);
        x.symbol(0, 1, 0, 0, 0);
        x.symbol(1, 1, NONE, 0, 1);
        dueLink(x, "one GLOBAL DEFINED", false, 0, NONE);
        x.symbol(1, 2, 1, 0, 1);
        x.symbol(1, 1, 1, 0, 1);
        x.root(60);
        dueLink(x, "two", false, 1, 5);
        for (int what = 0; what < 5; what++) {
            due.is("kept(0, " + what + ")", x.kept(0, what), STATE);
        }
        due.is("count(5)", x.count(5), 0);
        due.is("octet(4096)", x.octet(4096), STATE);
        x.mark(0, 2, 0);
        x.mark(1, 2, 0);
        dueLink(x, "the second ones are LOST", false, 2, 0);
        x.mark(1, 2, 1);
        dueLink(x, "two again", false, 1, 5);
    }

    private static void rootsNowhere() {
        SectionGarden x = Gardens.withObjects(1);
        x.section(0, 2, 8, 0, 0);
        x.section(0, 2, 8, 0, 0);
        x.symbol(0, 1, 0, 0, 2);
        x.symbol(0, 2, 1, 0, 0);
        x.symbol(0, 3, NONE, 0, 1);
        x.root(1);
        dueLink(x, "a WEAK root", true, 0, NONE);
        x.root(2);
        x.root(3);
        dueLink(x, "a LOCAL root", true, 2, 1);
        dueKept(x, 0, 0, NONE);
        dueKept(x, 1, NONE, NONE);
        due.isIllegalState("place(0)", () -> x.place(0));
        due.is("veneers(0)", x.veneers(0), STATE);
        due.is("count(5)", x.count(5), 1);
        due.is("count(7)", x.count(7), 0);
    }

    private static void relocationsNowhere() {
        SectionGarden x = Gardens.withObjects(1);
        x.section(0, 2, 8, 0, 0);
        x.section(0, 2, 8, 0, 0);
        int weak = x.symbol(0, 1, NONE, 0, 2);
        int global = x.symbol(0, 1, NONE, 0, 1);
        x.relocation(1, 0, 0, global, 0);
        x.relocation(0, 0, 0, weak, 258);
        x.mark(0, 0, 1);
        dueLink(x, "by WEAK, and of what is not KEPT", true, 0, NONE);
        due.is("V is the ADDEND", x.octet(4096) + 256 * x.octet(4097), 258);
        due.is("value NOWHERE", x.value(global), 0);
        x.relocation(0, 0, 0, global, 0);
        x.relocation(0, 0, 0, global, 0);
        dueLink(x, "by GLOBAL", true, 3, 2);
        x.mark(1, 0, 1);
        dueLink(x, "the least one", true, 3, 0);
        dueKept(x, 1, 1, NONE);
    }

    private static void relocationsIntoLost() {
        SectionGarden x = Gardens.withObjects(2);
        x.section(0, 2, 8, 0, 0);
        x.section(1, 2, 8, 0, 0);
        x.section(1, 2, 8, 0, 0);
        x.mark(0, 2, 3);
        x.mark(1, 2, 3);
        int local = x.symbol(1, 1, 1, 0, 0);
        int global = x.symbol(1, 2, 1, 0, 1);
        x.symbol(0, 2, 0, 0, 1);
        x.relocation(1, 0, 0, local, 0);
        x.relocation(2, 0, 0, global, 0);
        x.mark(2, 0, 1);
        dueLink(x, "by GLOBAL it is another's", true, 0, NONE);
        dueKept(x, 0, 1, 2);
        x.relocation(2, 0, 0, local, 0);
        x.relocation(2, 0, 0, local, 0);
        dueLink(x, "by LOCAL", true, 4, 2);
        dueKept(x, 0, 1, 2);
        dueKept(x, 1, NONE, NONE);
        due.is("LOST", x.kept(1, 3), 1);
        SectionGarden y = Gardens.withObjects(2);
        y.section(0, 2, 8, 0, 0);
        y.section(1, 2, 8, 0, 0);
        y.section(1, 2, 8, 0, 0);
        y.mark(0, 2, 3);
        y.mark(1, 2, 3);
        y.mark(2, 0, 1);
        y.relocation(2, 0, 0, y.symbol(1, 1, 1, 0, 0), 0);
        dueLink(y, "the first relocation of all", true, 4, 0);
    }

    private static void firstKindOfFault() {
        SectionGarden x = Gardens.withObjects(2);
        x.section(0, 2, 8, 0, 0);
        x.section(1, 2, 8, 0, 0);
        x.section(1, 2, 8, 0, 0);
        x.mark(0, 2, 3);
        x.mark(1, 2, 3);
        x.mark(2, 0, 1);
        int local = x.symbol(1, 1, 1, 0, 0);
        int nowhere = x.symbol(1, 2, NONE, 0, 1);
        x.relocation(2, 0, 4, nowhere, 999);
        x.relocation(2, 0, 0, local, 0);
        x.relocation(2, 0, 0, nowhere, 0);
        dueLink(x, "3 comes before 4", true, 3, 0);
        x.root(9);
        dueLink(x, "2 comes before 3", true, 2, 0);
        x.symbol(0, 4, 0, 0, 1);
        x.symbol(0, 4, 0, 0, 1);
        dueLink(x, "1 comes before 2", true, 1, 3);
    }

    private static void dueFolded(SectionGarden x, String what, int... into) {
        due.is(what + ": link(true)", x.link(true), 0);
        int folded = 0;
        for (int i = 0; i < into.length; i++) {
            due.is(what + ": kept(" + (i + 1) + ", 2)", x.kept(i + 1, 2), into[i]);
            folded += into[i] == NONE ? 0 : 1;
        }
        due.is(what + ": count(6)", x.count(6), folded);
    }

    private static void foldingOfPlainTwins() {
        SectionGarden x = Gardens.withTwins(3);
        dueFolded(x, "three", NONE, 1, 1);
        due.is("KEPT all the same", x.kept(3, 0), 1);
        due.is("count(5)", x.count(5), 4);
        due.is("place(1)", x.place(1), 4096 + 12);
        due.is("place(3)", x.place(3), 4096 + 12);
        due.is("value(2)", x.value(2), 4096 + 12);
        due.is("the branch", x.octet(4096 + 8), 4);
        due.is("range(0, true)", x.range(0, true), 4096 + 20);
        due.is("not wanted", x.link(false), 0);
        due.is("kept(3, 2)", x.kept(3, 2), NONE);
        due.is("place(3)", x.place(3), 4096 + 28);
        due.is("count(6)", x.count(6), 0);
    }

    private static void whatMayNotBeFolded() {
        SectionGarden x = Gardens.withTwins(3);
        x.mark(1, 0, 1);
        dueFolded(x, "the first has KEEP", NONE, NONE, 2);
        x.mark(1, 0, 0);
        x.mark(2, 1, 0);
        dueFolded(x, "the second has a SET", NONE, NONE, 1);
        x.mark(2, 1, NONE);
        x.mark(3, 2, 0);
        dueFolded(x, "a GROUP is no matter", NONE, 1, 1);
        x.relocation(1, 0, 0, 1, 0);
        dueFolded(x, "one has a relocation more and the second's place is taken", NONE, NONE, NONE);

        SectionGarden y = Gardens.withTwins(2);
        y.section(0, 2, 8, 0, 0);
        y.relocation(3, 0, 2, 1, 0);
        dueFolded(y, "what is not KEPT takes a place", NONE, 1);
        y.mark(3, 0, 1);
        dueFolded(y, "what is KEPT takes a place", NONE, NONE);

        SectionGarden z = Gardens.withObjects(1);
        for (int kind = 0; kind < 4; kind++) {
            z.section(0, kind, 4, 0, 1);
            z.section(0, kind, 4, 0, 1);
        }
        z.section(0, 0, 4, 0, 9);
        z.symbol(0, 0, 8, 0, 1);
        for (int i = 0; i < 9; i++) {
            z.mark(i, 2, 1);
        }
        z.root(0);
        due.is("kinds: link(true)", z.link(true), 0);
        int[] into = {NONE, 0, NONE, 2, NONE, NONE, NONE, NONE, NONE};
        for (int i = 0; i < 9; i++) {
            due.is("kinds: kept(" + i + ", 2)", z.kept(i, 2), into[i]);
        }
    }

    private static void whatIsNotAlike() {
        SectionGarden x = Gardens.withObjects(1);
        x.section(0, 0, 4, 0, 1);
        x.section(0, 1, 4, 0, 1);
        x.section(0, 0, 5, 0, 1);
        x.section(0, 0, 4, 1, 1);
        x.section(0, 0, 4, 0, 2);
        x.section(0, 0, 4, 0, 257);
        x.section(0, 0, 4, 0, 1);
        x.section(0, 0, 4, 0, 0);
        x.section(0, 0, 0, 0, 1);
        x.section(0, 0, 0, 0, 2);
        x.symbol(0, 0, 0, 0, 1);
        for (int i = 0; i < 10; i++) {
            x.mark(i, 2, 1);
        }
        x.patch(6, 3, 9);
        for (int i = 0; i < 4; i++) {
            x.patch(7, i, 1 + i);
        }
        x.root(0);
        due.is("unlike: link(true)", x.link(true), 0);
        int[] into = {NONE, NONE, NONE, NONE, NONE, 0, NONE, 0, NONE, 8};
        for (int i = 0; i < 10; i++) {
            due.is("unlike: kept(" + i + ", 2)", x.kept(i, 2), into[i]);
        }
        x.patch(6, 3, 4);
        due.is("patched back: link(true)", x.link(true), 0);
        due.is("patched back: kept(6, 2)", x.kept(6, 2), 0);
    }

    private static void likeTargets() {
        int[][] symbols = {{40, NONE, 2}, {41, NONE, 2}, {0, -2, 0}, {0, -2, 0}, {0, -10, 0}, {0, -3, 0}};
        for (int a = 0; a < symbols.length; a++) {
            for (int b = 0; b < symbols.length; b++) {
                SectionGarden x = Gardens.withTwins(2);
                int one = x.symbol(0, symbols[a][0], symbols[a][1], 0, symbols[a][2]);
                int other = x.symbol(0, symbols[b][0], symbols[b][1], 0, symbols[b][2]);
                x.relocation(1, 0, 1, one, 7);
                x.relocation(2, 0, 1, other, 7);
                dueFolded(x, "targets " + a + " and " + b, NONE, symbols[a][1] == symbols[b][1] ? 1 : NONE);
            }
        }
        int[][] changed = {{0, 1, 0, 7}, {2, 1, 0, 7}, {0, 0, 0, 7}, {0, 1, 1, 7}, {0, 1, 0, 8}};
        for (int i = 0; i < changed.length; i++) {
            SectionGarden x = Gardens.withTwins(2);
            x.section(0, 2, 4, 0, 0);
            int first = x.symbol(0, 0, 3, 0, 0);
            x.symbol(0, 0, 3, 1, 0);
            int[] c = changed[i];
            x.relocation(1, 0, 1, first, 7);
            x.relocation(2, c[0], c[1], first + c[2], c[3]);
            dueFolded(x, "changed " + i, NONE, i == 0 ? 1 : NONE);
        }
    }

    private static void foldingOfCircles() {
        SectionGarden x = Gardens.withTwins(2);
        x.relocation(1, 0, BRANCH, 0, 0);
        x.relocation(2, 0, BRANCH, 1, 0);
        dueFolded(x, "each to itself", NONE, 1);

        SectionGarden y = Gardens.withTwins(2);
        y.relocation(1, 0, BRANCH, 1, 0);
        y.relocation(2, 0, BRANCH, 0, 0);
        dueFolded(y, "each to the other", NONE, 1);

        SectionGarden z = Gardens.withTwins(5);
        z.relocation(1, 0, BRANCH, 1, 0);
        z.relocation(2, 0, BRANCH, 2, 0);
        z.relocation(3, 0, BRANCH, 0, 0);
        z.relocation(4, 0, BRANCH, 4, 0);
        z.relocation(5, 0, BRANCH, 3, 0);
        dueFolded(z, "a circle of three and one of two", NONE, 1, 1, 1, 1);
        z.patch(5, 7, 99);
        dueFolded(z, "the circle of two is broken", NONE, 1, 1, NONE, NONE);
    }

    private static void foldingInChains() {
        int links = 28;
        SectionGarden x = Gardens.withTwins(2 * links);
        for (int i = 1; i < links; i++) {
            x.relocation(i, 0, BRANCH, i, 0);
            x.relocation(links + i, 0, BRANCH, links + i, 0);
        }
        int[] into = new int[2 * links];
        for (int i = 0; i < links; i++) {
            into[i] = NONE;
            into[links + i] = i + 1;
        }
        dueFolded(x, "two chains", into);
        x.patch(2 * links, 0, 77);
        java.util.Arrays.fill(into, NONE);
        dueFolded(x, "two chains with other ends", into);
    }

    private static void foldedIsFoundWithFaults() {
        SectionGarden x = Gardens.withTwins(2);
        x.root(50);
        dueLink(x, "folding with a fault", true, 2, 0);
        due.is("kept(2, 2)", x.kept(2, 2), 1);
        due.is("count(6)", x.count(6), 1);
        SectionGarden y = Gardens.withTwins(2);
        int nowhere = y.symbol(0, 50, NONE, 0, 1);
        y.relocation(0, 0, 0, nowhere, 0);
        dueLink(y, "folding with a fault", true, 3, 2);
        due.is("kept(2, 2)", y.kept(2, 2), 1);
        SectionGarden z = Gardens.withTwins(2);
        z.object();
        z.section(0, 2, 4, 0, 0);
        z.section(1, 2, 4, 0, 0);
        z.section(1, 2, 4, 0, 0);
        z.mark(3, 2, 0);
        z.mark(4, 2, 0);
        z.mark(5, 0, 1);
        z.relocation(5, 0, 0, z.symbol(1, 50, 4, 0, 0), 0);
        dueLink(z, "folding with a fault", true, 4, 2);
        due.is("kept(2, 2)", z.kept(2, 2), 1);
        due.is("count(6)", z.count(6), 1);
        z.mark(4, 2, NONE);
        z.base(2, 4096);
        dueLink(z, "folding with a fault", true, 5, 2);
        due.is("kept(2, 2)", z.kept(2, 2), 1);
        due.is("count(6)", z.count(6), 1);
    }

    private static void counts() {
        SectionGarden x = Gardens.withObjects(3);
        x.section(0, 0, 4, 0, 0);
        x.section(0, 3, 4, 0, 0);
        x.symbol(0, 1, 0, 0, 1);
        x.symbol(0, 2, 0, 0, 1);
        x.symbol(0, 3, 0, 0, 1);
        x.symbol(0, 4, 0, 0, 1);
        for (int i = 0; i < 5; i++) {
            x.relocation(0, 0, 0, 0, 0);
        }
        x.root(1);
        int[] told = {3, 2, 4, 5, 1, 0, 0, 0, 0};
        int[] linked = {3, 2, 4, 5, 1, 1, 0, 1, 0};
        for (int what = 0; what < 9; what++) {
            due.is("told: count(" + what + ")", x.count(what), told[what]);
        }
        dueLink(x, "counts", true, 0, NONE);
        for (int what = 0; what < 9; what++) {
            due.is("linked: count(" + what + ")", x.count(what), linked[what]);
        }
        due.is("count(-1)", x.count(-1), OUTSIDE);
        due.is("count(9)", x.count(9), OUTSIDE);
        due.is("count(most)", x.count(Integer.MAX_VALUE), OUTSIDE);
    }
}

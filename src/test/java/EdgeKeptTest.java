/**
 * LOST, DEFINITION, TARGET, '2 KEPT', '3 FOLDING' and the FAULTS 1 to 4, at their bounds; promises 10 to 12 and 18:
 * what link(), fault(), kept() and count() answer when nothing, or as much as can be, is KEPT, FOLDED or wrong.
 */
final class EdgeKeptTest {
    private static final int NONE = SectionGarden.NONE;
    private static final int UNKNOWN = SectionGarden.UNKNOWN;
    private static final int OUTSIDE = SectionGarden.OUTSIDE;
    private static final int STATE = SectionGarden.STATE;
    private static final int LEAST = Integer.MIN_VALUE;
    private static final int MOST = Integer.MAX_VALUE;
    private static final int WORD = 0;
    private static final int BRANCH = 3;
    private static final int LOCAL = 0;
    private static final int GLOBAL = 1;
    private static final int WEAK = 2;

    private static final Due due = new Due("edges of what is kept");

    public static void main(String[] args) {
        lostIsWhatAnObjectBeforeHas();
        lostForEveryGroup();
        noGroupIsNotAGroup();
        lostEndsWithTheGroup();
        whatIsNoDefinition();
        globalComesBeforeWeak();
        theFirstWeakThatIsNotLost();
        firstAndLastName();
        localHasItsOwnTarget();
        nothingIsKept();
        keepOfALostOne();
        aChainOfSixty();
        aCircleEnds();
        setsByStartAndByStop();
        aSetFromTheFirstSectionToTheLast();
        aSetOfNothing();
        whatHasNoSetComesByNone();
        groupsComeWhole();
        nowhereBringsNothing();
        rowsByNumbersAndInOrder();
        foldingNotWanted();
        whatIsNotKeptIsNotFolded();
        typesThatForbidFolding();
        aPlaceTakenByItself();
        aPlaceTakenThroughADefinition();
        theFirstByNumberStays();
        bytesThatAreAlike();
        bytesAlikeByPatchesAlone();
        numbersThatAreAlike();
        fiftyNineAlike();
        twoGlobalDefinitions();
        whatIsNotTwoGlobalDefinitions();
        numbersOfFault1();
        numbersOfFault2();
        numbersOfFault3();
        whatIsNotFault3();
        numbersOfFault4();
        linkOfNothing();
        linkAgain();
        faultUntilSomethingIsTold();
        keptInEveryState();
        countsInEveryState();
        due.end();
    }

    private static void dueLink(SectionGarden x, String what, int kind, int number) {
        due.is(what + ": link(true)", x.link(true), kind);
        due.is(what + ": fault()", x.fault(), number);
    }

    private static void dueAll(SectionGarden x, String what, int asked, int... answers) {
        for (int i = 0; i < answers.length; i++) {
            due.is(what + ": kept(" + i + ", " + asked + ")", x.kept(i, asked), answers[i]);
        }
    }

    /** Sections of data without KEEP, one for each object told. */
    private static SectionGarden ofObjects(int objects, int... owners) {
        SectionGarden x = Gardens.withObjects(objects);
        for (int owner : owners) {
            x.section(owner, 2, 8, 0, 0);
        }
        return x;
    }

    /** 'sections with a GROUP of which an object before theirs has a section, too': objects, not sections, tell. */
    private static void lostIsWhatAnObjectBeforeHas() {
        SectionGarden x = ofObjects(3, 1, 0, 0, 2, 1, 2);
        for (int i = 0; i < 4; i++) {
            x.mark(i, 2, 4);
        }
        x.mark(5, 2, 5);
        dueLink(x, "lost", 0, NONE);
        dueAll(x, "lost", 3, 1, 0, 0, 1, 0, 0);
    }

    private static void lostForEveryGroup() {
        for (int group = 0; group < 16; group++) {
            SectionGarden x = ofObjects(12, 11, 0, 10, 11);
            x.mark(0, 2, group);
            x.mark(1, 2, group);
            x.mark(2, 2, (group + 1) % 16);
            x.mark(3, 2, (group + 1) % 16);
            dueLink(x, "group " + group, 0, NONE);
            dueAll(x, "group " + group, 3, 1, 0, 0, 1);
        }
    }

    private static void noGroupIsNotAGroup() {
        SectionGarden x = ofObjects(2, 0, 1, 1);
        x.mark(1, 2, 3);
        x.mark(1, 2, NONE);
        dueLink(x, "no group", 0, NONE);
        dueAll(x, "no group", 3, 0, 0, 0);
    }

    private static void lostEndsWithTheGroup() {
        SectionGarden x = ofObjects(3, 0, 1, 2);
        for (int i = 0; i < 3; i++) {
            x.mark(i, 2, 0);
        }
        dueLink(x, "three", 0, NONE);
        dueAll(x, "three", 3, 0, 1, 1);
        x.mark(0, 2, NONE);
        dueLink(x, "two", 0, NONE);
        dueAll(x, "two", 3, 0, 0, 1);
        x.mark(1, 2, 1);
        dueLink(x, "one", 0, NONE);
        dueAll(x, "one", 3, 0, 0, 0);
    }

    /** 'a GLOBAL or WEAK DEFINED symbol of a section that is not LOST' */
    private static void whatIsNoDefinition() {
        SectionGarden x = ofObjects(2, 0, 1, 1);
        x.symbol(0, 1, 0, 4, LOCAL);
        x.symbol(0, 1, NONE, 0, GLOBAL);
        x.symbol(0, 1, NONE, 0, WEAK);
        x.symbol(0, 1, -2, 0, LOCAL);
        x.symbol(0, 2, 0, 0, GLOBAL);
        x.root(1);
        dueLink(x, "LOCAL, UNDEFINED, START", 2, 0);
        x.mark(0, 2, 0);
        x.mark(1, 2, 0);
        x.symbol(1, 1, 1, 0, GLOBAL);
        x.symbol(1, 1, 1, 0, WEAK);
        dueLink(x, "LOST ones", 2, 0);
        x.symbol(1, 1, 2, 8, WEAK);
        dueLink(x, "WEAK of one that is not LOST", 0, NONE);
        due.is("its section is KEPT", x.kept(2, 0), 1);
        due.is("VALUE of the name", x.value(1), 4096 + 8);
    }

    /** 'of the GLOBAL ones the first (by number); without any, of the WEAK ones the first' */
    private static void globalComesBeforeWeak() {
        SectionGarden x = ofObjects(1, 0, 0, 0);
        x.symbol(0, 1, 0, 0, WEAK);
        x.symbol(0, 1, 1, 0, WEAK);
        x.symbol(0, 1, 2, 0, GLOBAL);
        x.root(1);
        dueLink(x, "the GLOBAL one, told last", 0, NONE);
        dueAll(x, "the GLOBAL one, told last", 0, 0, 0, 1);
        SectionGarden y = ofObjects(1, 0, 0, 0);
        y.symbol(0, 1, 2, 0, GLOBAL);
        y.symbol(0, 1, 1, 0, WEAK);
        y.root(1);
        dueLink(y, "the GLOBAL one, told first", 0, NONE);
        dueAll(y, "the GLOBAL one, told first", 0, 0, 0, 1);
    }

    private static void theFirstWeakThatIsNotLost() {
        SectionGarden x = ofObjects(2, 0, 0, 1, 1);
        x.symbol(1, 1, 3, 0, WEAK);
        x.symbol(0, 1, 1, 0, WEAK);
        x.symbol(0, 1, 0, 0, WEAK);
        x.root(1);
        dueLink(x, "by symbols, not by sections", 0, NONE);
        dueAll(x, "by symbols, not by sections", 0, 0, 0, 0, 1);
        x.mark(0, 2, 9);
        x.mark(3, 2, 9);
        dueLink(x, "the first is LOST", 0, NONE);
        dueAll(x, "the first is LOST", 0, 0, 1, 0, 0);
    }

    private static void firstAndLastName() {
        SectionGarden x = ofObjects(1, 0, 0);
        x.symbol(0, 0, 0, 0, GLOBAL);
        x.symbol(0, 63, 1, 0, WEAK);
        x.root(63);
        dueLink(x, "name 63", 0, NONE);
        dueAll(x, "name 63", 0, 0, 1);
        x.root(0);
        dueLink(x, "name 0", 0, NONE);
        dueAll(x, "names 0 and 63", 4, 1, 0);
    }

    /** 'LOCAL and DEFINED: its section and offset .. Else the DEFINITION of its name .. NOWHERE' */
    private static void localHasItsOwnTarget() {
        SectionGarden x = Gardens.keeping(2, 8, 2, 8);
        x.symbol(0, 1, 0, 1, LOCAL);
        x.symbol(0, 1, 1, 2, GLOBAL);
        x.symbol(0, 1, 0, 3, WEAK);
        x.symbol(0, 1, NONE, 0, WEAK);
        x.symbol(0, 2, NONE, 0, GLOBAL);
        x.symbol(0, 2, 0, 5, LOCAL);
        dueLink(x, "targets", 0, NONE);
        long[] values = {4097, 4106, 4106, 4106, 0, 4101};
        for (int i = 0; i < values.length; i++) {
            due.is("value(" + i + ")", x.value(i), values[i]);
        }
    }

    private static void nothingIsKept() {
        SectionGarden x = ofObjects(1, 0, 0);
        x.symbol(0, 1, 0, 0, GLOBAL);
        x.relocation(0, 0, WORD, 0, 0);
        x.mark(0, 1, 1);
        x.mark(1, 2, 1);
        dueLink(x, "nothing is kept", 0, NONE);
        int[] none = {0, NONE, NONE, 0, NONE};
        for (int what = 0; what < 5; what++) {
            dueAll(x, "nothing is kept", what, none[what], none[what]);
        }
        due.is("count(5)", x.count(5), 0);
        due.is("count(7)", x.count(7), 1);
        due.is("octet(4096)", x.octet(4096), NONE);
        due.is("range(3, true)", x.range(3, true), 4096);
        due.isIllegalState("place(0)", () -> x.place(0));
        due.isIllegalState("value(0)", () -> x.value(0));
    }

    /** 'none of them LOST' */
    private static void keepOfALostOne() {
        SectionGarden x = ofObjects(2, 0, 1);
        x.mark(0, 2, 0);
        x.mark(1, 2, 0);
        x.mark(1, 0, 1);
        dueLink(x, "KEEP of a LOST one", 0, NONE);
        dueAll(x, "KEEP of a LOST one", 0, 0, 0);
        due.is("count(5)", x.count(5), 0);
        x.mark(0, 2, NONE);
        dueLink(x, "LOST no more", 0, NONE);
        dueAll(x, "LOST no more", 0, 0, 1);
    }

    private static void aChainOfSixty() {
        SectionGarden x = Gardens.withObjects(1);
        for (int i = 0; i < 60; i++) {
            x.section(0, 2, 8, 0, 0);
            x.symbol(0, 0, i, 0, LOCAL);
        }
        for (int i = 1; i < 60; i++) {
            x.relocation(i, 0, WORD, i - 1, 0);
        }
        x.mark(59, 0, 1);
        dueLink(x, "sixty", 0, NONE);
        for (int i = 0; i < 60; i++) {
            due.is("row of " + i, x.kept(i, 4), 59 - i);
            due.is("BY of " + i, x.kept(i, 1), i == 59 ? NONE : i + 1);
        }
        due.is("count(5)", x.count(5), 60);
        x.mark(59, 0, 0);
        x.mark(30, 0, 1);
        dueLink(x, "from the middle", 0, NONE);
        due.is("count(5)", x.count(5), 31);
        due.is("the one before", x.kept(31, 0), 0);
    }

    private static void aCircleEnds() {
        SectionGarden x = ofObjects(1, 0, 0);
        x.symbol(0, 1, 0, 0, GLOBAL);
        x.symbol(0, 2, 1, 0, GLOBAL);
        x.relocation(0, 0, WORD, 1, 0);
        x.relocation(1, 0, WORD, 0, 0);
        x.relocation(1, 4, WORD, 1, 0);
        x.root(2);
        dueLink(x, "a circle", 0, NONE);
        dueAll(x, "a circle", 4, 1, 0);
        dueAll(x, "a circle", 1, 1, NONE);
    }

    /** 'all with the SET (not LOST) of a TARGET that is one', 'of a SET by numbers' */
    private static void setsByStartAndByStop() {
        for (int edge = -2; edge >= -17; edge--) {
            int set = edge > -10 ? -2 - edge : -10 - edge;
            SectionGarden x = ofObjects(2, 0, 1, 0, 0, 0, 1);
            int[] sets = {NONE, set, (set + 1) % 8, set, NONE, set};
            for (int i = 0; i < 6; i++) {
                x.mark(i, 1, sets[i]);
            }
            x.mark(4, 2, 7);
            x.mark(5, 2, 7);
            x.mark(0, 0, 1);
            x.relocation(0, 0, WORD, x.symbol(0, 0, edge, 0, LOCAL), 0);
            String title = "edge " + edge;
            dueLink(x, title, 0, NONE);
            dueAll(x, title, 4, 0, 1, NONE, 2, NONE, NONE);
            dueAll(x, title, 1, NONE, 0, NONE, 0, NONE, NONE);
        }
    }

    private static void aSetFromTheFirstSectionToTheLast() {
        SectionGarden x = ofObjects(1, 0, 0, 0, 0);
        x.mark(0, 1, 0);
        x.mark(3, 1, 0);
        x.mark(2, 0, 1);
        x.relocation(2, 0, WORD, x.symbol(0, 0, -10, 0, LOCAL), 0);
        dueLink(x, "first and last", 0, NONE);
        dueAll(x, "first and last", 4, 1, NONE, 0, 2);
        dueAll(x, "first and last", 1, 2, NONE, NONE, 2);
    }

    private static void aSetOfNothing() {
        SectionGarden x = ofObjects(1, 0, 0);
        x.mark(0, 0, 1);
        x.relocation(0, 0, WORD, x.symbol(0, 0, -2, 0, LOCAL), 0);
        x.relocation(0, 4, WORD, x.symbol(0, 0, -17, 0, LOCAL), 0);
        dueLink(x, "a set of nothing", 0, NONE);
        dueAll(x, "a set of nothing", 0, 1, 0);
        due.is("its START", Gardens.numberAt(x, 4096, 4), 0);
        due.is("its STOP", Gardens.numberAt(x, 4100, 4), 0);
    }

    private static void whatHasNoSetComesByNone() {
        SectionGarden x = ofObjects(1, 0, 0, 0);
        x.mark(0, 0, 1);
        x.symbol(0, 5, NONE, 0, WEAK);
        x.symbol(0, 6, 1, 0, LOCAL);
        x.relocation(0, 0, WORD, 0, 0);
        x.relocation(0, 4, WORD, 1, 0);
        dueLink(x, "no set", 0, NONE);
        dueAll(x, "no set", 0, 1, 1, 0);
    }

    /** 'and all with its GROUP are', 'then of its GROUP by numbers' */
    private static void groupsComeWhole() {
        for (int group : new int[] {0, 15}) {
            SectionGarden x = ofObjects(2, 0, 0, 0, 0, 1, 0);
            int[] groups = {group, 15 - group, group, NONE, group, group};
            for (int i = 0; i < 6; i++) {
                x.mark(i, 2, groups[i]);
            }
            x.mark(2, 0, 1);
            dueLink(x, "group " + group, 0, NONE);
            dueAll(x, "group " + group, 4, 1, NONE, 0, NONE, NONE, 2);
            dueAll(x, "group " + group, 1, 2, NONE, NONE, NONE, NONE, 2);
        }
    }

    private static void nowhereBringsNothing() {
        SectionGarden x = ofObjects(2, 0, 1, 1, 1);
        x.mark(0, 2, 0);
        x.mark(1, 2, 0);
        x.mark(2, 0, 1);
        x.symbol(1, 1, 1, 0, WEAK);
        x.symbol(1, 2, 1, 0, LOCAL);
        x.symbol(1, 3, 3, 0, LOCAL);
        x.relocation(2, 0, WORD, 0, 0);
        dueLink(x, "WEAK of a LOST one", 0, NONE);
        dueAll(x, "WEAK of a LOST one", 0, 0, 0, 1, 0);
        x.relocation(2, 0, WORD, 1, 0);
        x.relocation(2, 4, WORD, 2, 0);
        dueLink(x, "LOCAL of a LOST one", 4, 1);
        dueAll(x, "LOCAL of a LOST one", 0, 0, 0, 1, 1);
    }

    /** 'those with KEEP by numbers, then those of the ROOTS in order; then .. by its relocations in order' */
    private static void rowsByNumbersAndInOrder() {
        SectionGarden x = ofObjects(1, 0, 0, 0, 0, 0, 0, 0, 0);
        for (int i = 0; i < 8; i++) {
            x.symbol(0, i, i, 0, GLOBAL);
        }
        x.mark(7, 0, 1);
        x.mark(3, 0, 1);
        x.root(5);
        x.root(7);
        x.root(1);
        x.root(5);
        x.mark(3, 2, 0);
        x.mark(0, 2, 0);
        x.relocation(7, 4, WORD, 6, 0);
        x.relocation(7, 0, WORD, 4, 0);
        x.relocation(3, 4, WORD, 2, 0);
        x.relocation(3, 0, WORD, 4, 0);
        dueLink(x, "rows", 0, NONE);
        dueAll(x, "rows", 4, 6, 3, 4, 0, 5, 2, 7, 1);
        dueAll(x, "rows", 1, 3, NONE, 3, NONE, 3, NONE, 7, NONE);
    }

    private static void foldingNotWanted() {
        SectionGarden x = Gardens.withTwins(3);
        due.is("not wanted: link(false)", x.link(false), 0);
        dueAll(x, "not wanted", 2, NONE, NONE, NONE, NONE);
        due.is("count(6)", x.count(6), 0);
        dueLink(x, "wanted", 0, NONE);
        dueAll(x, "wanted", 2, NONE, NONE, 1, 1);
        due.is("count(6)", x.count(6), 2);
        due.is("not wanted again: link(false)", x.link(false), 0);
        dueAll(x, "not wanted again", 2, NONE, NONE, NONE, NONE);
    }

    /** 'A kept section may be folded': the first of three that are the same is not KEPT. */
    private static void whatIsNotKeptIsNotFolded() {
        SectionGarden x = Gardens.keeping(0, 8);
        for (int i = 1; i < 5; i++) {
            x.section(0, 0, 4, 0, 3);
            x.symbol(0, i, i, 0, LOCAL);
        }
        x.relocation(0, 0, BRANCH, 1, 0);
        x.relocation(0, 4, BRANCH, 2, 0);
        dueLink(x, "not KEPT", 0, NONE);
        dueAll(x, "not KEPT", 2, NONE, NONE, NONE, 2, NONE);
        due.is("count(6)", x.count(6), 1);
    }

    /** 'each relocation of a kept section whose TARGET is in it is a BRANCH' */
    private static void typesThatForbidFolding() {
        for (int type = 0; type < 5; type++) {
            for (int twin = 1; twin <= 2; twin++) {
                SectionGarden x = Gardens.withTwins(2);
                x.relocation(0, 2, type, twin - 1, type == 4 ? -4100 : 0);
                dueLink(x, "type " + type + " to " + twin, 0, NONE);
                due.is("type " + type + " to " + twin, x.kept(2, 2), type == BRANCH ? 1 : NONE);
            }
        }
    }

    private static void aPlaceTakenByItself() {
        for (int type : new int[] {WORD, BRANCH}) {
            SectionGarden x = Gardens.withTwins(2);
            x.relocation(1, 0, type, 0, 0);
            x.relocation(2, 0, type, 1, 0);
            dueLink(x, "each to itself by " + type, 0, NONE);
            due.is("each to itself by " + type, x.kept(2, 2), type == BRANCH ? 1 : NONE);
        }
    }

    private static void aPlaceTakenThroughADefinition() {
        SectionGarden x = Gardens.withTwins(2);
        x.object();
        x.section(1, 2, 8, 0, 0);
        x.symbol(0, 50, 2, 8, WEAK);
        x.relocation(3, 0, WORD, x.symbol(1, 50, NONE, 0, GLOBAL), 0);
        dueLink(x, "another object's, not KEPT", 0, NONE);
        due.is("another object's, not KEPT", x.kept(2, 2), 1);
        x.mark(3, 0, 1);
        dueLink(x, "another object's", 0, NONE);
        due.is("another object's", x.kept(2, 2), NONE);
        x.section(0, 2, 8, 0, 0);
        x.mark(4, 2, 1);
        x.mark(3, 2, 1);
        dueLink(x, "another object's, LOST", 0, NONE);
        due.is("another object's, LOST", x.kept(2, 2), 1);
    }

    /** 'Of some that are ALIKE all but the first (by number)': whatever came first in the rows. */
    private static void theFirstByNumberStays() {
        SectionGarden x = Gardens.keeping(0, 12);
        for (int i = 1; i < 4; i++) {
            x.section(0, 0, 4, 0, 3);
            x.symbol(0, i, i, 0, LOCAL);
        }
        for (int i = 0; i < 3; i++) {
            x.relocation(0, 4 * i, BRANCH, 2 - i, 0);
        }
        dueLink(x, "by number", 0, NONE);
        dueAll(x, "by number", 4, 0, 3, 2, 1);
        dueAll(x, "by number", 2, NONE, NONE, 1, 1);
    }

    /** 'KIND, size, ALIGN, bytes are the same': the first byte, the last, and seeds that tell the same bytes. */
    private static void bytesThatAreAlike() {
        int[][] patches = {{0, 5}, {0, 6}, {7, 12}, {7, 13}, {7, 268}};
        int[] into = {1, NONE, 1, NONE, 1};
        for (int i = 0; i < patches.length; i++) {
            for (int twin = 1; twin <= 2; twin++) {
                SectionGarden x = Gardens.withTwins(2);
                x.patch(twin, patches[i][0], patches[i][1]);
                dueLink(x, "patch " + i, 0, NONE);
                due.is("patch " + i + " of " + twin, x.kept(2, 2), into[i]);
                x.patch(3 - twin, patches[i][0], patches[i][1]);
                dueLink(x, "patch " + i + " of both", 0, NONE);
                due.is("patch " + i + " of both", x.kept(2, 2), 1);
            }
        }
        int[] seeds = {0, 1, 256, -256, LEAST, 255};
        int[] alike = {1, NONE, 1, 1, 1, NONE};
        for (int i = 0; i < seeds.length; i++) {
            due.is("seeds 0 and " + seeds[i], foldedInto(new int[] {0, 20000, 0, 0}, new int[] {0, 20000, 0, seeds[i]}),
                alike[i]);
            due.is("empty ones, seeds 0 and " + seeds[i],
                foldedInto(new int[] {0, 0, 0, 0}, new int[] {0, 0, 0, seeds[i]}), 1);
        }
    }

    private static void bytesAlikeByPatchesAlone() {
        SectionGarden x = Gardens.keeping(0, 8);
        x.section(0, 1, 3, 0, 5);
        x.section(0, 1, 3, 0, 9);
        x.relocation(0, 0, BRANCH, x.symbol(0, 1, 1, 0, LOCAL), 0);
        x.relocation(0, 4, BRANCH, x.symbol(0, 2, 2, 0, LOCAL), 0);
        int[][] patches = {{1, 6}, {2, 7}, {0, 5}, {2, 8}, {2, 7}, {0, 4}};
        int[] into = {NONE, NONE, 1, NONE, 1, NONE};
        for (int i = 0; i < patches.length; i++) {
            x.patch(2, patches[i][0], patches[i][1]);
            dueLink(x, "by patch " + i, 0, NONE);
            due.is("by patch " + i, x.kept(2, 2), into[i]);
        }
    }

    private static void numbersThatAreAlike() {
        int[][] others = {{0, 8, 2, 1}, {1, 8, 2, 1}, {0, 7, 2, 1}, {0, 9, 2, 1}, {0, 8, 1, 1}, {0, 8, 3, 1}, {0, 8, 2, 2}};
        for (int i = 0; i < others.length; i++) {
            due.is("unlike by " + i, foldedInto(new int[] {0, 8, 2, 1}, others[i]), i == 0 ? 1 : NONE);
        }
    }

    /** Into which section the second of two is folded, told as kind, size, align, seed: both are KEPT by branches. */
    private static int foldedInto(int[] one, int[] other) {
        SectionGarden x = Gardens.keeping(0, 8);
        x.section(0, one[0], one[1], one[2], one[3]);
        x.section(0, other[0], other[1], other[2], other[3]);
        x.relocation(0, 0, BRANCH, x.symbol(0, 1, 1, 0, LOCAL), 0);
        x.relocation(0, 4, BRANCH, x.symbol(0, 2, 2, 0, LOCAL), 0);
        dueLink(x, "two", 0, NONE);
        return x.kept(2, 2);
    }

    private static void fiftyNineAlike() {
        SectionGarden x = Gardens.withTwins(59);
        dueLink(x, "59 twins", 0, NONE);
        for (int i = 1; i < 60; i++) {
            due.is("twin " + i, x.kept(i, 2), i == 1 ? NONE : 1);
            due.is("place of twin " + i, x.place(i), 4096 + 236);
        }
        due.is("count(5)", x.count(5), 60);
        due.is("count(6)", x.count(6), 58);
        due.is("range(0, true)", x.range(0, true), 4096 + 236 + 8);
    }

    /** '1 a name with two GLOBAL DEFINITIONS': KEPT or not, of one object or two, even of one place. */
    private static void twoGlobalDefinitions() {
        for (int name : new int[] {0, 63}) {
            SectionGarden x = ofObjects(2, 0, 1);
            x.symbol(0, name, 0, 0, GLOBAL);
            x.symbol(0, name, 0, 0, GLOBAL);
            dueLink(x, "of one place", 1, 1);
            SectionGarden y = ofObjects(2, 0, 1);
            y.symbol(1, name, 1, 0, GLOBAL);
            y.symbol(0, name, 0, 0, GLOBAL);
            dueLink(y, "of two objects", 1, 1);
        }
    }

    private static void whatIsNotTwoGlobalDefinitions() {
        SectionGarden x = ofObjects(2, 0, 1);
        x.mark(0, 0, 1);
        x.symbol(0, 1, 0, 0, GLOBAL);
        x.symbol(0, 1, NONE, 0, GLOBAL);
        x.symbol(0, 1, 0, 0, WEAK);
        x.symbol(0, 1, 0, 0, LOCAL);
        x.symbol(0, 2, 0, 0, GLOBAL);
        x.symbol(0, 3, 0, 0, WEAK);
        x.symbol(0, 3, 0, 0, WEAK);
        dueLink(x, "one GLOBAL DEFINITION each", 0, NONE);
        x.mark(0, 2, 0);
        x.mark(1, 2, 0);
        x.symbol(1, 1, 1, 0, GLOBAL);
        x.symbol(1, 1, 1, 0, GLOBAL);
        dueLink(x, "two of a LOST section", 0, NONE);
        x.mark(0, 2, NONE);
        dueLink(x, "LOST no more", 1, 7);
    }

    /** 'the symbol of the second', 'told with a number (the least)' */
    private static void numbersOfFault1() {
        SectionGarden x = ofObjects(1, 0);
        int[] names = {8, 3, 5, 5, 3, 8, 5};
        for (int name : names) {
            x.symbol(0, name, 0, 0, GLOBAL);
        }
        dueLink(x, "three names twice", 1, 3);
        SectionGarden y = ofObjects(1, 0);
        for (int i = 0; i < 119; i++) {
            y.symbol(0, i % 64, 0, 0, i < 60 ? GLOBAL : LOCAL);
        }
        y.symbol(0, 59, 0, 0, GLOBAL);
        dueLink(y, "the last symbol", 1, 119);
    }

    /** '2 a ROOT that is NOWHERE (which one of the ROOTS, from 0)' */
    private static void numbersOfFault2() {
        for (int wrong = 0; wrong < 8; wrong++) {
            SectionGarden x = ofObjects(1, 0);
            x.symbol(0, 63, 0, 0, WEAK);
            for (int i = 0; i < 8; i++) {
                x.root(i < wrong ? 63 : 62);
            }
            dueLink(x, "root " + wrong, 2, wrong);
            due.is("KEPT by those before", x.kept(0, 0), wrong == 0 ? 0 : 1);
        }
        SectionGarden y = ofObjects(1, 0);
        y.symbol(0, 63, 0, 0, WEAK);
        y.root(62);
        y.root(63);
        dueLink(y, "a root behind the wrong one", 2, 0);
        due.is("it keeps all the same", y.kept(0, 0), 1);
    }

    /** '3 a relocation of a KEPT section by a symbol that is not WEAK, NOWHERE (the relocation)' */
    private static void numbersOfFault3() {
        SectionGarden x = Gardens.keeping(2, 8, 2, 8);
        x.symbol(0, 1, NONE, 0, GLOBAL);
        x.symbol(0, 1, NONE, 0, WEAK);
        for (int i = 0; i < 199; i++) {
            x.relocation(i % 2, 0, WORD, 1, 0);
        }
        x.relocation(0, 0, WORD, 0, 0);
        dueLink(x, "the last relocation", 3, 199);
        SectionGarden y = Gardens.keeping(2, 8, 2, 8);
        y.symbol(0, 1, NONE, 0, GLOBAL);
        y.relocation(1, 0, WORD, 0, 0);
        y.relocation(0, 0, WORD, 0, 0);
        dueLink(y, "by numbers, not by sections", 3, 0);
        y.mark(1, 0, 0);
        dueLink(y, "of KEPT ones alone", 3, 1);
        SectionGarden z = ofObjects(2, 0, 1, 1);
        z.mark(0, 2, 0);
        z.mark(1, 2, 0);
        z.mark(2, 0, 1);
        z.relocation(2, 0, WORD, z.symbol(1, 1, 1, 0, GLOBAL), 0);
        dueLink(z, "GLOBAL, DEFINED in a LOST section", 3, 0);
    }

    private static void whatIsNotFault3() {
        SectionGarden x = ofObjects(2, 0, 1, 1);
        x.mark(0, 2, 0);
        x.mark(1, 2, 0);
        x.mark(2, 0, 1);
        x.symbol(1, 1, 1, 0, WEAK);
        x.symbol(1, 2, NONE, 0, WEAK);
        x.symbol(1, 3, -9, 0, LOCAL);
        x.symbol(1, 4, -10, 0, LOCAL);
        x.symbol(1, 5, NONE, 0, GLOBAL);
        x.symbol(0, 6, NONE, 0, GLOBAL);
        for (int i = 0; i < 4; i++) {
            x.relocation(2, 0, WORD, i, 0);
        }
        x.relocation(1, 0, WORD, 4, 0);
        x.relocation(0, 0, WORD, 5, 0);
        dueLink(x, "WEAK, START and STOP, LOST and not KEPT", 0, NONE);
    }

    /** '4 one whose TARGET is in a LOST section (by LOCAL)' */
    private static void numbersOfFault4() {
        SectionGarden x = ofObjects(2, 0, 1, 1, 1);
        x.mark(0, 2, 0);
        x.mark(1, 2, 0);
        x.symbol(1, 1, 1, 0, LOCAL);
        x.symbol(1, 2, 1, 0, WEAK);
        x.relocation(3, 0, WORD, 0, 0);
        x.relocation(1, 0, WORD, 0, 0);
        x.relocation(2, 0, WORD, 1, 0);
        x.relocation(2, 0, WORD, 0, 0);
        x.relocation(2, 0, WORD, 0, 0);
        dueLink(x, "nothing is KEPT", 0, NONE);
        x.mark(2, 0, 1);
        dueLink(x, "one is KEPT", 4, 3);
        x.mark(3, 0, 1);
        dueLink(x, "two are KEPT", 4, 0);
        x.mark(1, 2, NONE);
        dueLink(x, "LOST no more", 0, NONE);
        due.is("KEPT by them", x.kept(1, 1), 2);
    }

    private static void linkOfNothing() {
        for (int fold = 0; fold < 2; fold++) {
            for (int objects = 0; objects <= 12; objects += 12) {
                SectionGarden x = Gardens.withObjects(objects);
                due.is("nothing: link", x.link(fold == 1), 0);
                due.is("nothing: fault()", x.fault(), NONE);
                int[] counts = {objects, 0, 0, 0, 0, 0, 0, 1, 0};
                for (int what = 0; what < 9; what++) {
                    due.is("nothing: count(" + what + ")", x.count(what), counts[what]);
                }
                for (int kind = 0; kind < 4; kind++) {
                    due.is("nothing: begins", x.range(kind, false), 4096);
                    due.is("nothing: ends", x.range(kind, true), 4096);
                }
                due.is("nothing: octet(4096)", x.octet(4096), NONE);
                due.is("nothing: octet(0)", x.octet(0), NONE);
            }
        }
    }

    private static void linkAgain() {
        SectionGarden x = Gardens.withTwins(4);
        x.relocation(1, 0, BRANCH, 3, 40000);
        dueLink(x, "again", 0, NONE);
        String first = Snapshot.of(x);
        for (int i = 0; i < 3; i++) {
            dueLink(x, "again", 0, NONE);
            due.is("again: all is as it was", Snapshot.of(x).equals(first) ? 1 : 0, 1);
            due.is("again, not folded: link(false)", x.link(false), 0);
            due.is("again, not folded: another image", Snapshot.of(x).equals(first) ? 1 : 0, 0);
        }
    }

    /** A garden whose link(true) answers the kind told; its section 0 is KEPT (by KEEP), its section 1 is not. */
    private static SectionGarden withFault(int kind) {
        SectionGarden x = Gardens.keeping(0, 8);
        x.section(0, 2, 8, 0, 0);
        x.symbol(0, 1, 0, 0, GLOBAL);
        x.symbol(0, 2, NONE, 0, GLOBAL);
        if (kind == 1) {
            x.symbol(0, 1, 1, 0, GLOBAL);
        } else if (kind == 2) {
            x.root(2);
        } else if (kind == 3) {
            x.relocation(0, 0, WORD, 1, 0);
        } else if (kind == 4) {
            x.object();
            x.section(1, 2, 8, 0, 0);
            x.section(1, 2, 8, 0, 0);
            x.mark(1, 2, 0);
            x.mark(2, 2, 0);
            x.mark(3, 0, 1);
            x.relocation(3, 0, WORD, x.symbol(1, 3, 2, 0, LOCAL), 0);
        } else if (kind == 5) {
            x.section(0, 1, 8, 0, 0);
            x.mark(2, 0, 1);
            x.base(1, 4096);
        } else if (kind == 6) {
            x.relocation(0, 0, 4, 0, 0);
        }
        due.is("kind " + kind + ": link(true)", x.link(true), kind);
        return x;
    }

    /** 'The FAULT's number in the latest link(); NONE without one, and before any, or since something was told.' */
    private static void faultUntilSomethingIsTold() {
        int[] numbers = {NONE, 2, 0, 0, 0, 1, 0};
        for (int kind = 0; kind <= 6; kind++) {
            SectionGarden x = withFault(kind);
            due.is("fault " + kind, x.fault(), numbers[kind]);
            due.is("fault " + kind + " once more", x.fault(), numbers[kind]);
            due.is("refused", x.mark(0, 0, 2), OUTSIDE);
            due.is("fault " + kind + " behind a refusal", x.fault(), numbers[kind]);
            x.mark(1, 1, NONE);
            due.is("fault " + kind + " since told", x.fault(), NONE);
            due.is("link again", x.link(true), kind);
            due.is("fault " + kind + " of the latest", x.fault(), numbers[kind]);
        }
        SectionGarden y = withFault(6);
        y.mark(0, 0, 0);
        due.is("mended: link", y.link(true), 0);
        due.is("mended: fault", y.fault(), NONE);
        due.is("before any", new SectionGarden().fault(), NONE);
    }

    /** 'UNKNOWN, OUTSIDE, STATE (no link() since something was told, or a FAULT 1; 5, 6 are none of these)' */
    private static void keptInEveryState() {
        for (int kind = 0; kind <= 6; kind++) {
            SectionGarden x = withFault(kind);
            dueKeptEdges(x, "fault " + kind, kind == 1 ? STATE : 1, kind == 1 ? STATE : 0);
            x.mark(1, 1, NONE);
            dueKeptEdges(x, "told since fault " + kind, STATE, STATE);
        }
        SectionGarden y = Gardens.keeping(0, 8);
        y.section(0, 2, 8, 0, 0);
        dueKeptEdges(y, "before any", STATE, STATE);
    }

    private static void dueKeptEdges(SectionGarden x, String title, int first, int second) {
        int sections = x.count(1);
        due.is(title + ": kept(0, 0)", x.kept(0, 0), first);
        due.is(title + ": kept(1, 0)", x.kept(1, 0), second);
        int[] whats = {LEAST, -1, 5, MOST};
        for (int what : whats) {
            due.is(title + ": what " + what, x.kept(0, what), OUTSIDE);
            due.is(title + ": what " + what + ", no section", x.kept(sections, what), UNKNOWN);
        }
        for (int section : new int[] {LEAST, -1, sections, MOST}) {
            due.is(title + ": section " + section, x.kept(section, 0), UNKNOWN);
        }
        for (int what = 0; what < 5; what++) {
            due.is(title + ": what " + what + " has an answer", x.kept(0, what) == STATE ? 1 : 0, first == STATE ? 1 : 0);
        }
    }

    /** '5 KEPT, 6 FOLDED (both of the latest link(); 0 without), 7 .., 8 .. (both 0 without an image). OUTSIDE.' */
    private static void countsInEveryState() {
        int[] keptCounts = {1, 0, 1, 1, 2, 2, 1};
        for (int kind = 0; kind <= 6; kind++) {
            SectionGarden x = withFault(kind);
            due.is("fault " + kind + ": count(5)", x.count(5), keptCounts[kind]);
            due.is("fault " + kind + ": count(6)", x.count(6), 0);
            due.is("fault " + kind + ": count(7)", x.count(7), kind == 0 ? 1 : 0);
            due.is("fault " + kind + ": count(8)", x.count(8), 0);
            for (int what : new int[] {LEAST, -1, 9, MOST}) {
                due.is("fault " + kind + ": count(" + what + ")", x.count(what), OUTSIDE);
            }
        }
        SectionGarden y = Gardens.withTwins(3);
        y.relocation(0, 2, BRANCH, 0, 40000);
        int[] counts = {1, 4, 3, 4, 0, 4, 2, 2, 1};
        dueLink(y, "counts", 0, NONE);
        for (int what = 0; what < 9; what++) {
            due.is("linked: count(" + what + ")", y.count(what), counts[what]);
        }
        y.root(1);
        due.is("a root NOWHERE: link", y.link(true), 2);
        int[] faulty = {1, 4, 3, 4, 1, 4, 2, 0, 0};
        for (int what = 0; what < 9; what++) {
            due.is("fault 2: count(" + what + ")", y.count(what), faulty[what]);
        }
    }
}

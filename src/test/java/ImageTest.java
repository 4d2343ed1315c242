/** Promises 13 to 17, and the faults 5 and 6: places, values, bytes, ranges and veneers. */
final class ImageTest {
    private static final int NONE = SectionGarden.NONE;
    private static final int UNKNOWN = SectionGarden.UNKNOWN;
    private static final int STATE = SectionGarden.STATE;
    private static final int WORD = 0;
    private static final int HALF = 1;
    private static final int NEAR = 2;
    private static final int BRANCH = 3;
    private static final int BYTE = 4;

    private static final Due due = new Due("image");

    public static void main(String[] args) {
        wrongCalls();
        placesInOrder();
        placesWithBases();
        octets();
        valuesOfSets();
        typesAndTheirEdges();
        relocationsOverOneAnother();
        branchesAtTheEdge();
        veneersAreShared();
        veneersInRounds();
        veneersStay();
        veneersAreFoundAnew();
        veneersForFoldedTargets();
        veneersFarBehind();
        kindsOverOneAnother();
        faultsOfPlacesKeepTheRest();
        aFaultTakesTheImageAway();
        due.end();
    }

    private static void dueLink(SectionGarden x, String what, int kind, int number) {
        due.is(what + ": link(false)", x.link(false), kind);
        due.is(what + ": fault()", x.fault(), number);
    }

    private static void wrongCalls() {
        SectionGarden x = Gardens.keeping(0, 4);
        x.section(0, 0, 4, 0, 0);
        x.symbol(0, 1, 0, 0, 1);
        x.symbol(0, 2, 1, 0, 1);
        due.isIndexOutOfBounds("place(2) without an image", () -> x.place(2));
        due.isIndexOutOfBounds("value(2) without an image", () -> x.value(2));
        due.isIndexOutOfBounds("range(4, true) without an image", () -> x.range(4, true));
        due.isIllegalState("place(0) without an image", () -> x.place(0));
        due.isIllegalState("value(0) without an image", () -> x.value(0));
        due.isIllegalState("range(3, true) without an image", () -> x.range(3, true));
        due.is("veneers(2) without an image", x.veneers(2), UNKNOWN);
        due.is("veneers(0) without an image", x.veneers(0), STATE);
        due.is("octet(0) without an image", x.octet(0), STATE);
        dueLink(x, "wrong calls", 0, NONE);
        due.isIndexOutOfBounds("place(2)", () -> x.place(2));
        due.isIndexOutOfBounds("place(-1)", () -> x.place(-1));
        due.isIndexOutOfBounds("value(2)", () -> x.value(2));
        due.isIndexOutOfBounds("value(-1)", () -> x.value(-1));
        due.isIndexOutOfBounds("range(4, false)", () -> x.range(4, false));
        due.isIndexOutOfBounds("range(-1, false)", () -> x.range(-1, false));
        due.isIllegalState("place(1), not KEPT", () -> x.place(1));
        due.isIllegalState("value(1), not KEPT", () -> x.value(1));
        due.is("veneers(1), not KEPT", x.veneers(1), 0);
        due.is("veneers(-1)", x.veneers(-1), UNKNOWN);
        due.is("octet(least)", x.octet(Long.MIN_VALUE), NONE);
        due.is("octet(most)", x.octet(Long.MAX_VALUE), NONE);
    }

    private static void placesInOrder() {
        SectionGarden x = new SectionGarden();
        x.object();
        x.section(0, 3, 5, 3, 0);
        x.section(0, 2, 3, 2, 0);
        x.section(0, 0, 3, 0, 0);
        x.section(0, 1, 9, 8, 0);
        x.section(0, 0, 2, 1, 0);
        x.section(0, 0, 7, 0, 0);
        x.section(0, 2, 1, 0, 0);
        for (int i = 0; i < 7; i++) {
            x.mark(i, 0, i == 5 ? 0 : 1);
        }
        dueLink(x, "places", 0, NONE);
        due.is("code", x.place(2), 4096);
        due.is("code, aligned", x.place(4), 4100);
        due.is("constants", x.place(3), 4352);
        due.is("data", x.place(1), 4364);
        due.is("data more", x.place(6), 4367);
        due.is("zeros", x.place(0), 4368);
        long[][] ranges = {{4096, 4102}, {4102, 4361}, {4361, 4368}, {4368, 4373}};
        for (int kind = 0; kind < 4; kind++) {
            due.is("range(" + kind + ", false)", x.range(kind, false), ranges[kind][0]);
            due.is("range(" + kind + ", true)", x.range(kind, true), ranges[kind][1]);
        }
    }

    private static void placesWithBases() {
        SectionGarden x = Gardens.keeping(0, 3, 2, 5);
        x.base(1, 2000000000);
        x.base(3, 7);
        dueLink(x, "bases", 0, NONE);
        due.is("range(0, true)", x.range(0, true), 4099);
        due.is("range(1, false)", x.range(1, false), 2000000000);
        due.is("range(1, true)", x.range(1, true), 2000000000);
        due.is("place(1)", x.place(1), 2000000000);
        due.is("range(2, true)", x.range(2, true), 2000000005);
        due.is("range(3, false)", x.range(3, false), 7);
        x.base(1, NONE);
        x.base(0, 0);
        dueLink(x, "bases", 0, NONE);
        due.is("place(0)", x.place(0), 0);
        due.is("place(1)", x.place(1), 3);
    }

    private static void octets() {
        SectionGarden x = Gardens.keeping(0, 3);
        x.section(0, 3, 2, 2, 77);
        x.mark(1, 0, 1);
        x.patch(0, 1, 200);
        dueLink(x, "octets", 0, NONE);
        int[] bytes = {NONE, 0, 200, 2, NONE, 0, 0, NONE};
        for (int i = 0; i < bytes.length; i++) {
            due.is("octet(" + (4095 + i) + ")", x.octet(4095 + i), bytes[i]);
        }
    }

    private static void valuesOfSets() {
        SectionGarden x = Gardens.keeping(2, 8, 3, 8, 0, 5);
        int start = x.symbol(0, 0, -2 - 7, 0, 0);
        int stop = x.symbol(0, 0, -10 - 7, 0, 0);
        dueLink(x, "no such set", 0, NONE);
        due.is("START", x.value(start), 0);
        due.is("STOP", x.value(stop), 0);
        x.mark(1, 1, 7);
        x.mark(2, 1, 7);
        x.section(0, 0, 99, 0, 0);
        x.mark(3, 1, 7);
        dueLink(x, "two and one that is not KEPT", 0, NONE);
        due.is("START", x.value(start), 4096);
        due.is("STOP", x.value(stop), 4096 + 5 + 16);
        x.base(0, 9000);
        x.base(2, 100);
        dueLink(x, "the other way round", 0, NONE);
        due.is("START", x.value(start), 108);
        due.is("STOP", x.value(stop), 9005);
        x.mark(1, 1, 0);
        x.mark(2, 1, NONE);
        x.mark(0, 1, 0);
        dueLink(x, "another set", 0, NONE);
        due.is("START of none", x.value(start), 0);
        due.is("STOP of none", x.value(stop), 0);
        int first = x.symbol(0, 0, -2, 0, 0);
        int last = x.symbol(0, 0, -10, 0, 0);
        dueLink(x, "the set 0", 0, NONE);
        due.is("START of 0", x.value(first), 100);
        due.is("STOP of 0", x.value(last), 116);
    }

    /** A section of code at 4096 with one relocation at its byte 8, by a WEAK symbol that is NOWHERE: V is the addend. */
    private static int faultFor(int type, int addend) {
        SectionGarden x = Gardens.keeping(0, 16);
        int nowhere = x.symbol(0, 0, NONE, 0, 2);
        x.relocation(0, 8, type, nowhere, addend);
        return x.link(false);
    }

    private static void typesAndTheirEdges() {
        due.is("WORD -1", faultFor(WORD, -1), 6);
        due.is("WORD 0", faultFor(WORD, 0), 0);
        due.is("WORD most", faultFor(WORD, Integer.MAX_VALUE), 0);
        due.is("HALF -1", faultFor(HALF, -1), 6);
        due.is("HALF 0", faultFor(HALF, 0), 0);
        due.is("HALF 65535", faultFor(HALF, 65535), 0);
        due.is("HALF 65536", faultFor(HALF, 65536), 6);
        due.is("NEAR most", faultFor(NEAR, Integer.MAX_VALUE), 0);
        due.is("NEAR just too far", faultFor(NEAR, Integer.MIN_VALUE + 4103), 6);
        due.is("NEAR just not too far", faultFor(NEAR, Integer.MIN_VALUE + 4104), 0);
        due.is("BYTE -129", faultFor(BYTE, -129), 6);
        due.is("BYTE -128", faultFor(BYTE, -128), 0);
        due.is("BYTE 255", faultFor(BYTE, 255), 0);
        due.is("BYTE 256", faultFor(BYTE, 256), 6);

        SectionGarden x = Gardens.keeping(0, 16, 2, 0);
        int far = x.symbol(0, 1, 1, 0, 1);
        x.relocation(0, 0, WORD, far, Integer.MAX_VALUE);
        x.relocation(0, 4, NEAR, far, 147483647 + 4100);
        x.relocation(0, 8, HALF, far, -1999967233);
        x.relocation(0, 10, BYTE, far, -2000000001);
        x.base(2, 2000000000);
        dueLink(x, "types", 0, NONE);
        due.is("WORD", Gardens.numberAt(x, 4096, 4), 4147483647L);
        due.is("NEAR", Gardens.numberAt(x, 4100, 4), 2147483647L);
        due.is("HALF", Gardens.numberAt(x, 4104, 2), 32767);
        due.is("BYTE", x.octet(4106), 255);
        due.is("behind them", x.octet(4107), 11);
        x.relocation(0, 12, NEAR, far, 147483647 + 4109);
        dueLink(x, "NEAR too far", 6, 4);
        x.relocation(0, 0, BYTE, far, 0);
        dueLink(x, "the least one", 6, 4);
    }

    private static void relocationsOverOneAnother() {
        SectionGarden x = Gardens.keeping(2, 6);
        int here = x.symbol(0, 1, 0, 0, 0);
        x.relocation(0, 1, WORD, here, 0x01020304 - 4096);
        x.relocation(0, 2, HALF, here, 0x0506 - 4096);
        dueLink(x, "over one another", 0, NONE);
        int[] bytes = {0, 4, 6, 5, 1, 5};
        for (int i = 0; i < 6; i++) {
            due.is("octet(" + (4096 + i) + ")", x.octet(4096 + i), bytes[i]);
        }
    }

    private static int veneersFor(int addend) {
        SectionGarden x = Gardens.keeping(0, 16);
        int here = x.symbol(0, 0, 0, 8, 0);
        x.relocation(0, 8, BRANCH, here, addend);
        dueLink(x, "branch by " + addend, 0, NONE);
        due.is("count(8)", x.count(8), x.veneers(0));
        due.is("count(7)", x.count(7), 1 + x.veneers(0));
        due.is("the branch", Gardens.numberAt(x, 4104, 2), x.veneers(0) == 0 ? addend & 65535 : 8);
        if (x.veneers(0) == 1) {
            due.is("its veneer begins", Gardens.numberAt(x, 4112, 4), 234);
            due.is("its veneer", Gardens.numberAt(x, 4116, 4), (4104L + addend) & 0xFFFFFFFFL);
            due.is("behind it", x.octet(4120), NONE);
            due.is("range(0, true)", x.range(0, true), 4120);
        }
        return x.veneers(0);
    }

    private static void branchesAtTheEdge() {
        due.is("-32768", veneersFor(-32768), 0);
        due.is("-32769", veneersFor(-32769), 1);
        due.is("32767", veneersFor(32767), 0);
        due.is("32768", veneersFor(32768), 1);
        due.is("most", veneersFor(Integer.MAX_VALUE), 1);
        due.is("least", veneersFor(Integer.MIN_VALUE), 1);
    }

    private static void veneersAreShared() {
        SectionGarden x = Gardens.keeping(0, 21, 0, 4, 2, 8);
        int far = x.symbol(0, 1, 2, 4, 1);
        int same = x.symbol(0, 2, 2, 4, 0);
        int other = x.symbol(0, 2, 2, 0, 0);
        x.base(2, 100000);
        x.relocation(0, 0, BRANCH, far, 0);
        x.relocation(1, 0, BRANCH, same, 0);
        x.relocation(0, 2, BRANCH, other, 4);
        x.relocation(0, 4, BRANCH, same, 0);
        x.relocation(0, 6, BRANCH, other, 0);
        x.relocation(0, 8, BRANCH, other, 4);
        x.relocation(0, 12, NEAR, far, 0);
        dueLink(x, "shared", 0, NONE);
        due.is("veneers(0)", x.veneers(0), 3);
        due.is("veneers(1)", x.veneers(1), 1);
        due.is("veneers(2)", x.veneers(2), 0);
        due.is("count(8)", x.count(8), 4);
        due.is("count(7)", x.count(7), 2);
        due.is("place(1)", x.place(1), 4096 + 24 + 24);
        int[] branches = {24, 30, 20, 34, 24};
        due.is("branch to the first", Gardens.numberAt(x, 4096, 2), branches[0]);
        due.is("branch to the second", Gardens.numberAt(x, 4098, 2), branches[1]);
        due.is("branch to the first again", Gardens.numberAt(x, 4100, 2), branches[2]);
        due.is("branch to the third", Gardens.numberAt(x, 4102, 2), branches[3]);
        due.is("branch to the second again", Gardens.numberAt(x, 4104, 2), branches[4]);
        due.is("nothing before the veneers", x.octet(4096 + 22), NONE);
        due.is("first veneer", Gardens.numberAt(x, 4120 + 4, 4), 100004);
        due.is("second veneer", Gardens.numberAt(x, 4128 + 4, 4), 100004);
        due.is("third veneer", Gardens.numberAt(x, 4136 + 4, 4), 100000);
        due.is("the other's veneer", Gardens.numberAt(x, 4148 + 4, 4), 100004);
    }

    /** Section 1 branches over the veneers that section 0 and 2 get, only just near enough without them. */
    private static void veneersInRounds() {
        SectionGarden x = Gardens.keeping(0, 4, 0, 4, 0, 4, 0, 4);
        int three = x.symbol(0, 1, 3, 0, 0);
        int zero = x.symbol(0, 2, 0, 0, 0);
        x.relocation(2, 0, BRANCH, three, 40000);
        x.relocation(1, 0, BRANCH, three, 32767 - 8);
        x.relocation(3, 0, BRANCH, zero, -32768 + 12 + 8);
        x.relocation(0, 0, BRANCH, three, 32767 - 12 - 8);
        dueLink(x, "rounds", 0, NONE);
        due.is("count(7)", x.count(7), 4);
        int[] veneers = {1, 1, 1, 1};
        for (int i = 0; i < 4; i++) {
            due.is("veneers(" + i + ")", x.veneers(i), veneers[i]);
        }
        due.is("place(3)", x.place(3), 4096 + 36);
    }

    /** The branch of section 0 is too far at first; the veneers behind it move its target nearer again. */
    private static void veneersStay() {
        SectionGarden x = Gardens.keeping(0, 4, 0, 4);
        int one = x.symbol(0, 1, 1, 0, 0);
        x.relocation(0, 0, BRANCH, one, -32768 - 4 - 4);
        dueLink(x, "for ever", 0, NONE);
        due.is("veneers(0)", x.veneers(0), 1);
        due.is("count(7)", x.count(7), 2);
        due.is("place(1)", x.place(1), 4108);
        due.is("the branch goes to the veneer", Gardens.numberAt(x, 4096, 2), 4);
        due.is("V as all is placed at last", Gardens.numberAt(x, 4104, 4), (4108L - 32768 - 8) & 0xFFFFFFFFL);
    }

    private static void veneersAreFoundAnew() {
        SectionGarden x = Gardens.keeping(0, 4, 2, 4);
        int far = x.symbol(0, 1, 1, 0, 0);
        x.relocation(0, 0, BRANCH, far, 0);
        x.base(2, 100000);
        for (int i = 0; i < 3; i++) {
            dueLink(x, "once more", 0, NONE);
            due.is("veneers(0)", x.veneers(0), 1);
            due.is("count(7)", x.count(7), 2);
            due.is("count(8)", x.count(8), 1);
            due.is("range(0, true)", x.range(0, true), 4108);
        }
        x.base(2, NONE);
        dueLink(x, "near by now", 0, NONE);
        due.is("veneers(0)", x.veneers(0), 0);
        due.is("count(7)", x.count(7), 1);
        due.is("count(8)", x.count(8), 0);
        due.is("the branch", Gardens.numberAt(x, 4096, 2), 4);
    }

    private static void veneersForFoldedTargets() {
        SectionGarden x = Gardens.keeping(0, 8);
        x.section(0, 1, 4, 0, 3);
        x.section(0, 1, 4, 0, 3);
        int one = x.symbol(0, 1, 1, 0, 0);
        int two = x.symbol(0, 2, 2, 0, 0);
        x.relocation(0, 0, BRANCH, one, 0);
        x.relocation(0, 4, BRANCH, two, 0);
        x.base(1, 100000);
        due.is("folded targets: link(true)", x.link(true), 0);
        due.is("kept(2, 2)", x.kept(2, 2), 1);
        due.is("TARGETS are two", x.veneers(0), 2);
        due.is("first veneer", Gardens.numberAt(x, 4108, 4), 100000);
        due.is("second veneer", Gardens.numberAt(x, 4116, 4), 100000);
    }

    private static void veneersFarBehind() {
        SectionGarden x = Gardens.keeping(0, 20000, 2, 4);
        int far = x.symbol(0, 1, 1, 0, 0);
        x.relocation(0, 0, BRANCH, far, 0);
        x.base(2, 100000);
        dueLink(x, "20000 bytes are not too far for a veneer", 0, NONE);
        due.is("the branch", Gardens.numberAt(x, 4096, 2), 20000);

        SectionGarden y = Gardens.keeping(0, 20000, 2, 4);
        int there = y.symbol(0, 1, 1, 0, 0);
        y.base(2, 100000);
        for (int i = 0; i < 180; i++) {
            y.relocation(0, 0, BRANCH, there, i);
        }
        dueLink(y, "180 veneers", 0, NONE);
        due.is("veneers(0)", y.veneers(0), 180);
        due.is("the last branch is written last", Gardens.numberAt(y, 4096, 2), 20000 + 179 * 8);
    }

    private static void kindsOverOneAnother() {
        SectionGarden x = Gardens.keeping(0, 10, 1, 10, 2, 10, 3, 10);
        x.base(0, 100);
        x.base(1, 110);
        dueLink(x, "side by side", 0, NONE);
        x.base(1, 109);
        dueLink(x, "one byte over", 5, 1);
        x.base(1, 90);
        dueLink(x, "before, and data over code", 5, 2);
        x.base(2, 500);
        dueLink(x, "before", 0, NONE);
        x.base(3, 509);
        dueLink(x, "zeros over data", 5, 3);
        x.base(3, 95);
        dueLink(x, "zeros over constants and code", 5, 3);
        x.mark(3, 0, 0);
        dueLink(x, "no zeros are placed", 0, NONE);
        due.is("range(3, false)", x.range(3, false), 95);
        x.base(2, 95);
        int word = x.symbol(0, 1, 0, 0, 0);
        x.relocation(0, 0, BYTE, word, 9999);
        dueLink(x, "5 comes before 6", 5, 2);
        x.base(2, NONE);
        x.base(1, NONE);
        dueLink(x, "6 alone", 6, 0);
    }

    private static void faultsOfPlacesKeepTheRest() {
        SectionGarden x = Gardens.keeping(0, 8);
        x.section(0, 0, 4, 0, 3);
        x.section(0, 0, 4, 0, 3);
        x.symbol(0, 1, 1, 0, 0);
        x.symbol(0, 2, 2, 0, 0);
        x.relocation(0, 0, BRANCH, 0, 0);
        x.relocation(0, 4, BRANCH, 1, 100000);
        x.relocation(0, 6, HALF, x.symbol(0, 3, NONE, 0, 2), -1);
        due.is("fault 6: link(true)", x.link(true), 6);
        due.is("fault 6: fault()", x.fault(), 2);
        due.is("fault 6: kept(2, 0)", x.kept(2, 0), 1);
        due.is("fault 6: kept(2, 1)", x.kept(2, 1), 0);
        due.is("fault 6: kept(2, 2)", x.kept(2, 2), 1);
        due.is("fault 6: count(5)", x.count(5), 3);
        due.is("fault 6: count(6)", x.count(6), 1);
        due.is("fault 6: count(7)", x.count(7), 0);
        due.is("fault 6: count(8)", x.count(8), 0);
        due.is("fault 6: octet(4096)", x.octet(4096), STATE);
        due.is("fault 6: veneers(0)", x.veneers(0), STATE);
        due.isIllegalState("fault 6: place(0)", () -> x.place(0));
        due.isIllegalState("fault 6: range(0, true)", () -> x.range(0, true));
    }

    /** Folding moves the data down, and then a WORD no longer fits. */
    private static void aFaultTakesTheImageAway() {
        SectionGarden x = Gardens.keeping(0, 8, 2, 4);
        x.section(0, 0, 4, 0, 3);
        x.section(0, 0, 4, 0, 3);
        x.relocation(0, 0, BRANCH, x.symbol(0, 1, 2, 0, 0), 0);
        x.relocation(0, 4, BRANCH, x.symbol(0, 2, 3, 0, 0), 0);
        x.relocation(1, 0, WORD, x.symbol(0, 3, 1, 0, 0), -4096 - 16);
        dueLink(x, "without folding", 0, NONE);
        due.is("the WORD", Gardens.numberAt(x, 4112, 4), 0);
        due.is("with folding: link(true)", x.link(true), 6);
        due.is("with folding: fault()", x.fault(), 2);
        due.is("with folding: octet(4096)", x.octet(4096), STATE);
        dueLink(x, "without folding again", 0, NONE);
        due.is("octet(4112)", x.octet(4112), 0);
    }
}

/**
 * '4 PLACES', VALUE, the TYPES, VENEERS and the FAULTS 5 and 6, at their bounds; promises 13 to 17: what place(),
 * value(), octet(), range() and veneers() answer at the edges of an image, and without one.
 */
final class EdgeImageTest {
    private static final int NONE = SectionGarden.NONE;
    private static final int UNKNOWN = SectionGarden.UNKNOWN;
    private static final int STATE = SectionGarden.STATE;
    private static final int LEAST = Integer.MIN_VALUE;
    private static final int MOST = Integer.MAX_VALUE;
    private static final int WORD = 0;
    private static final int HALF = 1;
    private static final int NEAR = 2;
    private static final int BRANCH = 3;
    private static final int BYTE = 4;
    private static final int LOCAL = 0;
    private static final int GLOBAL = 1;
    private static final int WEAK = 2;

    private static final Due due = new Due("edges of the image");

    public static void main(String[] args) {
        eachKindBeginsWhereTheOneBeforeEnds();
        aKindWithoutSectionsEndsWhereItBegins();
        basesNeedNoAlign();
        theNextPlaceWithItsAlign();
        anEmptySectionIsAligned();
        byNumbersNotByRows();
        veneersFromAPlaceThatFourDivides();
        codeWithoutVeneersIsNotFilled();
        valuesOfFoldedOnes();
        startAndStop();
        aSetAtPlaceNought();
        stopLeavesTheVeneersOut();
        valuesNowhere();
        wordsAtTheEdge();
        halvesAtTheEdge();
        nearsAtTheEdge();
        branchesAtTheEdge();
        bytesAtTheEdge();
        branchesAloneGetVeneers();
        veneersForTheSameTargetAndAddend();
        veneersOfOneSectionAreNoOthers();
        veneersForNowhereAndSets();
        anOldVeneerIsTakenAgain();
        newVeneersComeBehindOldOnes();
        foldedOnesGetNoVeneers();
        bytesOfAVeneer();
        kindsSideBySide();
        kindsOverOneAnother();
        kindsWithoutSectionsLieOverNothing();
        emptyKindsInsideAnother();
        alignsCountForAKind();
        asAllIsPlacedAtLast();
        theFirstKindThatThereIs();
        whatNeedNotFit();
        theLeastThatDoesNotFit();
        placesInEveryState();
        valuesInEveryState();
        octetsAtTheEdges();
        octetsInEveryState();
        rangesInEveryState();
        veneersInEveryState();
        due.end();
    }

    private static void dueLink(SectionGarden x, String what, int kind, int number) {
        due.is(what + ": link(true)", x.link(true), kind);
        due.is(what + ": fault()", x.fault(), number);
    }

    private static void dueRanges(SectionGarden x, String what, long... edges) {
        for (int kind = 0; kind < 4; kind++) {
            due.is(what + ": kind " + kind + " begins", x.range(kind, false), edges[2 * kind]);
            due.is(what + ": kind " + kind + " ends", x.range(kind, true), edges[2 * kind + 1]);
        }
    }

    /** 'each begins at its BASE, if it was told one, else where the one before ends (code: 4096)' */
    private static void eachKindBeginsWhereTheOneBeforeEnds() {
        SectionGarden x = Gardens.keeping(3, 1, 2, 2, 1, 3, 0, 4);
        dueLink(x, "no bases", 0, NONE);
        dueRanges(x, "no bases", 4096, 4100, 4100, 4103, 4103, 4105, 4105, 4106);
        x.base(0, 0);
        dueLink(x, "code at 0", 0, NONE);
        dueRanges(x, "code at 0", 0, 4, 4, 7, 7, 9, 9, 10);
        x.base(2, 2000000000);
        dueLink(x, "data at the last base", 0, NONE);
        dueRanges(x, "data at the last base", 0, 4, 4, 7, 2000000000, 2000000002L, 2000000002L, 2000000003L);
        x.base(3, 7);
        dueLink(x, "zeros before data", 0, NONE);
        dueRanges(x, "zeros before data", 0, 4, 4, 7, 2000000000, 2000000002L, 7, 8);
    }

    /** 'A KIND ends behind its last one (where it begins, without any)' */
    private static void aKindWithoutSectionsEndsWhereItBegins() {
        SectionGarden x = Gardens.keeping(2, 5);
        dueLink(x, "data alone", 0, NONE);
        dueRanges(x, "data alone", 4096, 4096, 4096, 4096, 4096, 4101, 4101, 4101);
        x.base(1, 10);
        dueLink(x, "no constants at 10", 0, NONE);
        dueRanges(x, "no constants at 10", 4096, 4096, 10, 10, 10, 15, 15, 15);
    }

    private static void basesNeedNoAlign() {
        SectionGarden x = Gardens.withObjects(1);
        Gardens.keep(x, 2, 3, 8);
        x.base(2, 257);
        dueLink(x, "base 257", 0, NONE);
        due.is("begins at its BASE", x.range(2, false), 257);
        due.is("its section has its ALIGN", x.place(0), 512);
        due.is("ends", x.range(2, true), 515);
        due.is("nothing lies before it", x.octet(257), NONE);
        x.base(2, 256);
        dueLink(x, "base 256", 0, NONE);
        due.is("at the base itself", x.place(0), 256);
    }

    /** 'each at the next place with its ALIGN' */
    private static void theNextPlaceWithItsAlign() {
        for (int size = 255; size <= 257; size++) {
            SectionGarden x = Gardens.keeping(2, size);
            Gardens.keep(x, 2, 1, 8);
            dueLink(x, "behind " + size, 0, NONE);
            due.is("place behind " + size, x.place(1), size <= 256 ? 4096 + 256 : 4096 + 512);
        }
        SectionGarden y = Gardens.keeping(2, 1);
        Gardens.keep(y, 2, 1, 0);
        Gardens.keep(y, 2, 1, 1);
        Gardens.keep(y, 2, 1, 0);
        Gardens.keep(y, 2, 1, 2);
        dueLink(y, "small ones", 0, NONE);
        int[] places = {4096, 4097, 4098, 4099, 4100};
        for (int i = 0; i < places.length; i++) {
            due.is("place(" + i + ")", y.place(i), places[i]);
        }
    }

    private static void anEmptySectionIsAligned() {
        SectionGarden x = Gardens.keeping(2, 1);
        Gardens.keep(x, 2, 0, 4);
        dueLink(x, "an empty one", 0, NONE);
        due.is("its place", x.place(1), 4112);
        due.is("the end", x.range(2, true), 4112);
        due.is("nothing lies there", x.octet(4112), NONE);
    }

    /** 'Its sections that are KEPT and not FOLDED, by numbers' */
    private static void byNumbersNotByRows() {
        SectionGarden x = Gardens.withObjects(1);
        for (int i = 0; i < 4; i++) {
            x.section(0, 2, 4, 0, 0);
            x.symbol(0, i, i, 0, GLOBAL);
        }
        x.relocation(3, 0, WORD, 0, 0);
        x.root(3);
        x.root(2);
        dueLink(x, "by numbers", 0, NONE);
        due.is("the first", x.place(0), 4096);
        due.is("the next that is KEPT", x.place(2), 4100);
        due.is("the last", x.place(3), 4104);
        due.isIllegalState("not KEPT", () -> x.place(1));
    }

    /** 'behind one of code, from the next place that 4 divides, its VENEERS, eight bytes each' */
    private static void veneersFromAPlaceThatFourDivides() {
        for (int base = 4096; base < 4100; base++) {
            for (int size = 4; size <= 8; size++) {
                SectionGarden x = Gardens.keeping(0, size, 0, 1);
                x.base(0, base);
                x.relocation(0, 0, BRANCH, x.symbol(0, 1, NONE, 0, WEAK), 0x7FFFFFF0);
                x.relocation(0, 2, BRANCH, 0, 0x7FFFFFF1);
                long end = base + size;
                long first = (end + 3) / 4 * 4;
                String title = "base " + base + ", size " + size;
                dueLink(x, title, 0, NONE);
                due.is(title + ": veneers(0)", x.veneers(0), 2);
                due.is(title + ": the last byte", x.octet(end - 1), size - 1 < 4 ? x.octet(base + 3) : size - 1);
                for (long place = end; place < first; place++) {
                    due.is(title + ": nothing lies at " + place, x.octet(place), NONE);
                }
                due.is(title + ": the first veneer", Gardens.numberAt(x, first, 4), 234);
                due.is(title + ": its V", Gardens.numberAt(x, first + 4, 4), 0x7FFFFFF0);
                due.is(title + ": the second veneer", Gardens.numberAt(x, first + 8, 4), 234);
                due.is(title + ": its V", Gardens.numberAt(x, first + 12, 4), 0x7FFFFFF1);
                due.is(title + ": the branch", Gardens.numberAt(x, base, 2), first - base);
                due.is(title + ": the other branch", Gardens.numberAt(x, base + 2, 2), first + 8 - base - 2);
                due.is(title + ": what comes behind", x.place(1), first + 16);
                due.is(title + ": the end", x.range(0, true), first + 17);
            }
        }
    }

    private static void codeWithoutVeneersIsNotFilled() {
        SectionGarden x = Gardens.keeping(0, 5, 0, 2, 1, 1);
        dueLink(x, "no veneers", 0, NONE);
        due.is("behind code of 5 bytes", x.place(1), 4101);
        due.is("behind all code", x.place(2), 4103);
        due.is("the end of code", x.range(0, true), 4103);
    }

    /** 'place of its section (or of that into which it is FOLDED) and offset' */
    private static void valuesOfFoldedOnes() {
        SectionGarden x = Gardens.withTwins(3);
        int inside = x.symbol(0, 10, 3, 8, LOCAL);
        dueLink(x, "folded", 0, NONE);
        due.is("place of what is FOLDED", x.place(3), x.place(1));
        due.is("value of its end", x.value(inside), 4096 + 12 + 8);
        due.is("not wanted: link(false)", x.link(false), 0);
        due.is("value of its end, not FOLDED", x.value(inside), 4096 + 12 + 24);
    }

    /** 'of START the least place of the KEPT sections with the SET, of STOP the greatest end of one (0 without any)' */
    private static void startAndStop() {
        SectionGarden x = Gardens.keeping(2, 8, 2, 4, 3, 6);
        int start = x.symbol(0, 0, -2, 0, LOCAL);
        int stop = x.symbol(0, 0, -10, 0, LOCAL);
        dueLink(x, "no section", 0, NONE);
        due.is("START of none", x.value(start), 0);
        due.is("STOP of none", x.value(stop), 0);
        x.mark(1, 1, 0);
        dueLink(x, "one section", 0, NONE);
        due.is("START of one", x.value(start), 4104);
        due.is("STOP of one", x.value(stop), 4108);
        x.mark(2, 1, 0);
        x.base(2, 9000);
        x.base(3, 100);
        dueLink(x, "the later one lies first", 0, NONE);
        due.is("the least place", x.value(start), 100);
        due.is("the greatest end", x.value(stop), 9012);
        x.mark(1, 0, 0);
        dueLink(x, "one is not KEPT", 0, NONE);
        due.is("START of what is KEPT", x.value(start), 100);
        due.is("STOP of what is KEPT", x.value(stop), 106);
        SectionGarden y = Gardens.keeping(2, 3, 2, 0);
        y.mark(1, 1, 0);
        y.symbol(0, 0, -2, 0, LOCAL);
        y.symbol(0, 0, -10, 0, LOCAL);
        dueLink(y, "an empty one", 0, NONE);
        due.is("START of an empty one", y.value(0), 4099);
        due.is("STOP of an empty one", y.value(1), 4099);
    }

    private static void aSetAtPlaceNought() {
        SectionGarden x = Gardens.keeping(2, 4, 2, 4);
        x.mark(0, 1, 7);
        x.mark(1, 1, 7);
        x.symbol(0, 0, -9, 0, LOCAL);
        x.symbol(0, 0, -17, 0, LOCAL);
        x.base(2, 0);
        dueLink(x, "at 0", 0, NONE);
        due.is("START at 0", x.value(0), 0);
        due.is("STOP behind it", x.value(1), 8);
    }

    private static void stopLeavesTheVeneersOut() {
        SectionGarden x = Gardens.keeping(0, 5);
        x.mark(0, 1, 1);
        x.symbol(0, 0, -11, 0, LOCAL);
        x.relocation(0, 0, BRANCH, x.symbol(0, 1, 0, 0, LOCAL), 40000);
        dueLink(x, "a veneer behind a set", 0, NONE);
        due.is("veneers(0)", x.veneers(0), 1);
        due.is("STOP is the section's end", x.value(0), 4101);
        due.is("the KIND's end", x.range(0, true), 4112);
    }

    /** 'NOWHERE 0' */
    private static void valuesNowhere() {
        SectionGarden x = Gardens.keeping(2, 4);
        x.symbol(0, 1, NONE, 0, WEAK);
        x.symbol(0, 1, NONE, 0, GLOBAL);
        x.relocation(0, 0, WORD, 0, 5);
        dueLink(x, "NOWHERE", 0, NONE);
        due.is("value of WEAK", x.value(0), 0);
        due.is("value of GLOBAL", x.value(1), 0);
        due.is("V is the ADDEND", Gardens.numberAt(x, 4096, 4), 5);
    }

    /** A relocation at byte 4 of code at the base told, by a symbol NOWHERE: the number written, or less 0 a fault. */
    private static long written(int base, int type, int addend) {
        SectionGarden x = Gardens.keeping(0, 12);
        x.base(0, base);
        x.relocation(0, 4, type, x.symbol(0, 1, NONE, 0, WEAK), addend);
        int kind = x.link(false);
        int width = PlainModel.WIDTH[type];
        if (kind == 0) {
            due.is("the byte before", x.octet(base + 3L), 3);
            due.is("the byte behind", x.octet(base + 4L + width), 4 + width);
            return Gardens.numberAt(x, base + 4L, width);
        }
        due.is("kind of fault", kind, 6);
        due.is("its number", x.fault(), 0);
        return -1;
    }

    /** 'WORD, four bytes, V: 0 .. 4294967295': more than 4147483647 and a few cannot be told. */
    private static void wordsAtTheEdge() {
        due.is("WORD least", written(4096, WORD, LEAST), -1);
        due.is("WORD -1", written(4096, WORD, -1), -1);
        due.is("WORD 0", written(4096, WORD, 0), 0);
        due.is("WORD 1", written(4096, WORD, 1), 1);
        due.is("WORD most", written(4096, WORD, MOST), MOST);
        SectionGarden x = Gardens.keeping(2, 8);
        x.base(2, 2000000000);
        x.relocation(0, 0, WORD, x.symbol(0, 1, 0, 8, LOCAL), MOST);
        x.relocation(0, 4, WORD, 0, -2000000008);
        dueLink(x, "WORD", 0, NONE);
        due.is("WORD beyond an int", Gardens.numberAt(x, 2000000000, 4), 2000000008L + MOST);
        due.is("WORD 0 from far", Gardens.numberAt(x, 2000000004, 4), 0);
        x.relocation(0, 4, WORD, 0, -2000000009);
        dueLink(x, "WORD -1 from far", 6, 2);
    }

    /** 'HALF, two, V: 0 .. 65535' */
    private static void halvesAtTheEdge() {
        due.is("HALF least", written(4096, HALF, LEAST), -1);
        due.is("HALF -1", written(4096, HALF, -1), -1);
        due.is("HALF 0", written(4096, HALF, 0), 0);
        due.is("HALF 258", written(4096, HALF, 258), 258);
        due.is("HALF 65535", written(4096, HALF, 65535), 65535);
        due.is("HALF 65536", written(4096, HALF, 65536), -1);
        due.is("HALF most", written(4096, HALF, MOST), -1);
    }

    /** 'NEAR, four, V - P: -2147483648 .. 2147483647' */
    private static void nearsAtTheEdge() {
        due.is("NEAR least but one", written(4092, NEAR, LEAST + 4095), -1);
        due.is("NEAR least", written(4092, NEAR, LEAST + 4096), 2147483648L);
        due.is("NEAR -1", written(4092, NEAR, 4095), 4294967295L);
        due.is("NEAR 0", written(4092, NEAR, 4096), 0);
        due.is("NEAR far back", written(2000000000, NEAR, LEAST), -1);
        SectionGarden x = Gardens.keeping(0, 4, 2, 0);
        x.base(0, 0);
        x.base(2, 1000);
        x.relocation(0, 0, NEAR, x.symbol(0, 1, 1, 0, LOCAL), MOST - 1000);
        dueLink(x, "NEAR most", 0, NONE);
        due.is("NEAR most", Gardens.numberAt(x, 0, 4), MOST);
        x.relocation(0, 0, NEAR, 0, MOST - 999);
        dueLink(x, "NEAR most and one", 6, 1);
    }

    /** 'BRANCH, two .., V - P: -32768 .. 32767': beyond it goes to a veneer, 8 bytes on. */
    private static void branchesAtTheEdge() {
        due.is("BRANCH -32769", written(4092, BRANCH, 4096 - 32769), 8);
        due.is("BRANCH -32768", written(4092, BRANCH, 4096 - 32768), 32768);
        due.is("BRANCH -1", written(4092, BRANCH, 4095), 65535);
        due.is("BRANCH 0", written(4092, BRANCH, 4096), 0);
        due.is("BRANCH 32767", written(4092, BRANCH, 4096 + 32767), 32767);
        due.is("BRANCH 32768", written(4092, BRANCH, 4096 + 32768), 8);
        due.is("BRANCH least", written(2000000000, BRANCH, LEAST), 8);
        due.is("BRANCH most", written(0, BRANCH, MOST), 8);
    }

    /** 'BYTE, one, V: -128 .. 255', '(.. wrapping)' */
    private static void bytesAtTheEdge() {
        int[] addends = {LEAST, -129, -128, -1, 0, 127, 128, 255, 256, MOST};
        int[] bytes = {-1, -1, 128, 255, 0, 127, 128, 255, -1, -1};
        for (int i = 0; i < addends.length; i++) {
            due.is("BYTE " + addends[i], written(4096, BYTE, addends[i]), bytes[i]);
        }
    }

    /** 'each BRANCH .. gets one': no other TYPE does. */
    private static void branchesAloneGetVeneers() {
        SectionGarden x = Gardens.keeping(0, 16, 2, 4);
        x.base(2, 1000000);
        x.symbol(0, 1, 1, 0, LOCAL);
        x.relocation(0, 0, WORD, 0, 0);
        x.relocation(0, 4, NEAR, 0, 0);
        dueLink(x, "no BRANCH", 0, NONE);
        due.is("veneers(0)", x.veneers(0), 0);
        due.is("count(7)", x.count(7), 1);
        x.relocation(0, 8, BRANCH, 0, 0);
        dueLink(x, "a BRANCH", 0, NONE);
        due.is("veneers(0)", x.veneers(0), 1);
        due.is("count(7)", x.count(7), 2);
        due.is("WORD", Gardens.numberAt(x, 4096, 4), 1000000);
        due.is("NEAR", Gardens.numberAt(x, 4100, 4), 1000000 - 4100);
        due.is("BRANCH", Gardens.numberAt(x, 4104, 2), 8);
    }

    /** 'that of its section for the same TARGET and ADDEND, or a new one' */
    private static void veneersForTheSameTargetAndAddend() {
        SectionGarden x = Gardens.keeping(0, 20, 2, 8);
        x.base(2, 1000000);
        x.symbol(0, 1, 1, 4, GLOBAL);
        x.symbol(0, 1, NONE, 0, WEAK);
        x.symbol(0, 2, 1, 4, LOCAL);
        x.symbol(0, 3, 1, 3, LOCAL);
        int[] symbols = {0, 1, 2, 0, 3, 2, 3, 3};
        int[] addends = {0, 0, 0, 1, 1, 1, 0, 1};
        int[] veneers = {0, 0, 0, 1, 2, 1, 3, 2};
        for (int i = 0; i < 8; i++) {
            x.relocation(0, 2 * i, BRANCH, symbols[i], addends[i]);
        }
        dueLink(x, "shared", 0, NONE);
        due.is("veneers(0)", x.veneers(0), 4);
        for (int i = 0; i < 8; i++) {
            due.is("branch " + i, Gardens.numberAt(x, 4096 + 2 * i, 2), 20 + 8 * veneers[i] - 2 * i);
        }
        long[] values = {1000004, 1000005, 1000004, 1000003};
        for (int i = 0; i < 4; i++) {
            due.is("V of veneer " + i, Gardens.numberAt(x, 4096 + 20 + 8 * i + 4, 4), values[i]);
        }
    }

    private static void veneersOfOneSectionAreNoOthers() {
        SectionGarden x = Gardens.keeping(0, 4, 0, 4, 2, 8);
        x.base(2, 1000000);
        x.symbol(0, 1, 2, 4, GLOBAL);
        x.relocation(1, 0, BRANCH, 0, 0);
        x.relocation(0, 0, BRANCH, 0, 0);
        dueLink(x, "two sections", 0, NONE);
        due.is("veneers(0)", x.veneers(0), 1);
        due.is("veneers(1)", x.veneers(1), 1);
        due.is("count(8)", x.count(8), 2);
        due.is("count(7)", x.count(7), 2);
        due.is("the first's branch", Gardens.numberAt(x, 4096, 2), 4);
        due.is("the second's branch", Gardens.numberAt(x, 4108, 2), 4);
    }

    private static void veneersForNowhereAndSets() {
        SectionGarden x = Gardens.keeping(0, 16, 2, 8);
        x.base(0, 100000);
        x.base(2, 500000);
        x.mark(1, 1, 3);
        x.symbol(0, 1, NONE, 0, WEAK);
        x.symbol(0, 2, NONE, 0, WEAK);
        x.symbol(0, 3, -5, 0, LOCAL);
        x.symbol(0, 4, -5, 0, LOCAL);
        x.symbol(0, 5, -13, 0, LOCAL);
        for (int i = 0; i < 5; i++) {
            x.relocation(0, 2 * i, BRANCH, i, 0);
        }
        dueLink(x, "NOWHERE and sets", 0, NONE);
        due.is("veneers(0)", x.veneers(0), 3);
        int[] veneers = {0, 0, 1, 1, 2};
        for (int i = 0; i < 5; i++) {
            due.is("branch " + i, Gardens.numberAt(x, 100000 + 2 * i, 2), 16 + 8 * veneers[i] - 2 * i);
        }
        long[] values = {0, 500000, 500008};
        for (int i = 0; i < 3; i++) {
            due.is("V of veneer " + i, Gardens.numberAt(x, 100016 + 8 * i + 4, 4), values[i]);
        }
    }

    /** The second BRANCH reaches until the first one's veneer moves its TARGET; then it takes that veneer. */
    private static void anOldVeneerIsTakenAgain() {
        SectionGarden x = Gardens.keeping(0, 8, 0, 4);
        x.symbol(0, 1, 1, 0, LOCAL);
        x.relocation(0, 0, BRANCH, 0, 32760);
        x.relocation(0, 2, BRANCH, 0, 32760);
        dueLink(x, "taken again", 0, NONE);
        due.is("veneers(0)", x.veneers(0), 1);
        due.is("no veneer is new in the second round", x.count(7), 2);
        due.is("the first branch", Gardens.numberAt(x, 4096, 2), 8);
        due.is("the second branch", Gardens.numberAt(x, 4098, 2), 6);
        due.is("V", Gardens.numberAt(x, 4108, 4), 4112 + 32760);
    }

    /** 'as long as a veneer is new, all is placed again': the first BRANCH gets its veneer a round later. */
    private static void newVeneersComeBehindOldOnes() {
        SectionGarden x = Gardens.keeping(0, 8, 0, 4);
        x.symbol(0, 1, 1, 0, LOCAL);
        x.relocation(0, 0, BRANCH, 0, 32759);
        x.relocation(0, 2, BRANCH, 0, 40000);
        dueLink(x, "one behind another", 0, NONE);
        due.is("veneers(0)", x.veneers(0), 2);
        due.is("count(7)", x.count(7), 3);
        due.is("the first branch, to the second veneer", Gardens.numberAt(x, 4096, 2), 16);
        due.is("the second branch, to the first veneer", Gardens.numberAt(x, 4098, 2), 6);
        due.is("V of the first veneer", Gardens.numberAt(x, 4108, 4), 4120 + 40000);
        due.is("V of the second veneer", Gardens.numberAt(x, 4116, 4), 4120 + 32759);
        due.is("place(1)", x.place(1), 4120);
    }

    /** 'each BRANCH of a section that is placed' */
    private static void foldedOnesGetNoVeneers() {
        SectionGarden x = Gardens.withTwins(2);
        x.section(0, 0, 8, 2, 5);
        int nowhere = x.symbol(0, 40, NONE, 0, WEAK);
        for (int i = 1; i <= 3; i++) {
            x.relocation(i, 0, BRANCH, nowhere, 100000);
        }
        dueLink(x, "folded", 0, NONE);
        int[] folded = {0, 1, 0, 0};
        for (int i = 0; i < 4; i++) {
            due.is("veneers(" + i + ")", x.veneers(i), folded[i]);
        }
        due.is("count(8)", x.count(8), 1);
        due.is("not folded: link(false)", x.link(false), 0);
        int[] apart = {0, 1, 1, 0};
        for (int i = 0; i < 4; i++) {
            due.is("not folded: veneers(" + i + ")", x.veneers(i), apart[i]);
        }
        due.is("not folded: count(8)", x.count(8), 2);
    }

    /** 'A veneer's bytes: 234, 0, 0, 0, and V (four bytes)', '(The lowest byte first, wrapping.)' */
    private static void bytesOfAVeneer() {
        int[] addends = {0x01020304, -2, LEAST, MOST};
        int[][] bytes = {{4, 3, 2, 1}, {254, 255, 255, 255}, {0, 0, 0, 128}, {255, 255, 255, 127}};
        for (int i = 0; i < addends.length; i++) {
            SectionGarden x = Gardens.keeping(0, 4);
            x.base(0, 100000);
            x.relocation(0, 0, BRANCH, x.symbol(0, 1, NONE, 0, WEAK), addends[i]);
            dueLink(x, "addend " + addends[i], 0, NONE);
            int[] head = {234, 0, 0, 0};
            for (int b = 0; b < 4; b++) {
                due.is("byte " + b, x.octet(100004 + b), head[b]);
                due.is("byte " + (4 + b), x.octet(100008 + b), bytes[i][b]);
            }
            due.is("behind it", x.octet(100012), NONE);
        }
        SectionGarden y = Gardens.keeping(0, 4, 2, 4);
        y.base(0, 100000);
        y.base(2, 2000000000);
        y.relocation(0, 0, BRANCH, y.symbol(0, 1, 1, 4, LOCAL), MOST);
        dueLink(y, "V beyond an int", 0, NONE);
        due.is("V beyond an int", Gardens.numberAt(y, 100008, 4), 2000000004L + MOST);
    }

    /** '5 a KIND that lies over one before it': one that touches it does not. */
    private static void kindsSideBySide() {
        for (int one = 0; one < 4; one++) {
            for (int other = 0; other < one; other++) {
                SectionGarden x = Gardens.keeping(other, 10, one, 20);
                x.base(other, 1000);
                String title = other + " and " + one;
                int[] bases = {979, 980, 981, 999, 1000, 1005, 1009, 1010, 1011};
                int[] faults = {0, 0, 5, 5, 5, 5, 5, 0, 0};
                for (int i = 0; i < bases.length; i++) {
                    x.base(one, bases[i]);
                    dueLink(x, title + " at " + bases[i], faults[i], faults[i] == 5 ? one : NONE);
                }
            }
        }
    }

    /** 'told with a number (the least)', of any KIND before it. */
    private static void kindsOverOneAnother() {
        SectionGarden x = Gardens.keeping(0, 10, 1, 10, 2, 10, 3, 10);
        for (int kind = 0; kind < 4; kind++) {
            x.base(kind, 1000);
        }
        dueLink(x, "all", 5, 1);
        x.base(1, 2000);
        dueLink(x, "code, data and zeros", 5, 2);
        x.base(2, 1990);
        dueLink(x, "code and zeros", 5, 3);
        x.base(3, 1991);
        dueLink(x, "data and zeros", 5, 3);
        x.base(3, 2009);
        dueLink(x, "constants and zeros", 5, 3);
        x.base(3, 2010);
        dueLink(x, "none", 0, NONE);
        due.is("the bytes are all there", x.octet(2019), 0);
    }

    /** 'both having sections that are placed' */
    private static void kindsWithoutSectionsLieOverNothing() {
        SectionGarden x = Gardens.keeping(0, 10);
        x.section(0, 1, 10, 0, 0);
        x.section(0, 3, 10, 0, 0);
        x.base(0, 1000);
        x.base(1, 1005);
        x.base(3, 1000);
        dueLink(x, "told, but not KEPT", 0, NONE);
        dueRanges(x, "told, but not KEPT", 1000, 1010, 1005, 1005, 1005, 1005, 1000, 1000);
        x.mark(2, 0, 1);
        dueLink(x, "KEPT", 5, 3);
        x.mark(0, 0, 0);
        dueLink(x, "the other is not KEPT", 0, NONE);
    }

    /** Where a KIND that is empty, but has a section, begins inside another one, it lies over that one. */
    private static void emptyKindsInsideAnother() {
        SectionGarden x = Gardens.keeping(0, 10, 2, 0);
        x.base(0, 1000);
        int[] bases = {999, 1000, 1001, 1009, 1010};
        int[] faults = {0, 0, 5, 5, 0};
        for (int i = 0; i < bases.length; i++) {
            x.base(2, bases[i]);
            dueLink(x, "empty data at " + bases[i], faults[i], faults[i] == 5 ? 2 : NONE);
        }
    }

    /** A KIND begins at its BASE, also where its first section has to lie behind that. */
    private static void alignsCountForAKind() {
        SectionGarden x = Gardens.keeping(0, 10);
        Gardens.keep(x, 2, 4, 4);
        x.base(0, 1000);
        x.base(2, 1009);
        dueLink(x, "data begins inside code", 5, 2);
        x.base(2, 1010);
        dueLink(x, "data begins behind code", 0, NONE);
        due.is("place(1)", x.place(1), 1024);
    }

    /** '(.. as all is placed at last)': with all veneers. */
    private static void asAllIsPlacedAtLast() {
        SectionGarden x = Gardens.keeping(0, 4, 2, 4);
        x.base(0, 1000);
        x.base(2, 1012);
        x.symbol(0, 1, NONE, 0, WEAK);
        dueLink(x, "without a veneer", 0, NONE);
        x.relocation(0, 0, BRANCH, 0, 100000);
        dueLink(x, "a veneer up to the data", 0, NONE);
        x.relocation(0, 2, BRANCH, 0, 100001);
        dueLink(x, "a veneer over the data", 5, 2);
        x.base(2, 1004);
        dueLink(x, "two veneers over the data", 5, 2);
    }

    /** 'the first kind that there is', 'no image then': all six at once, and one after another is mended. */
    private static void theFirstKindThatThereIs() {
        SectionGarden x = Gardens.keeping(0, 8, 1, 4, 2, 8);
        x.object();
        for (int i = 3; i < 6; i++) {
            x.section(1, 2, 8, 0, 0);
        }
        x.mark(5, 0, 1);
        x.mark(2, 2, 0);
        x.mark(3, 2, 0);
        x.symbol(0, 1, 0, 0, GLOBAL);
        x.symbol(1, 1, 4, 0, GLOBAL);
        x.root(1);
        x.root(2);
        x.relocation(5, 0, BYTE, x.symbol(1, 6, NONE, 0, WEAK), 256);
        x.relocation(5, 0, WORD, x.symbol(1, 4, 3, 0, LOCAL), 0);
        x.relocation(0, 0, WORD, x.symbol(0, 3, NONE, 0, GLOBAL), 0);
        x.base(2, 4096);
        dueNoImage(x, 1, 1);
        x.mark(0, 2, 1);
        x.mark(4, 2, 1);
        dueNoImage(x, 2, 1);
        x.symbol(0, 2, 0, 0, WEAK);
        dueNoImage(x, 3, 2);
        x.symbol(0, 3, 0, 0, GLOBAL);
        dueNoImage(x, 4, 1);
        x.mark(3, 2, NONE);
        dueNoImage(x, 5, 2);
        x.base(2, NONE);
        dueNoImage(x, 6, 0);
        x.mark(5, 0, 0);
        dueLink(x, "all is mended", 0, NONE);
        due.is("an image", x.octet(4100), 4);
    }

    private static void dueNoImage(SectionGarden x, int kind, int number) {
        dueLink(x, "kind " + kind, kind, number);
        due.is("kind " + kind + ": octet", x.octet(4100), STATE);
        due.is("kind " + kind + ": veneers", x.veneers(0), STATE);
        due.is("kind " + kind + ": count(7)", x.count(7), 0);
        due.isIllegalState("kind " + kind + ": place", () -> x.place(0));
        due.isIllegalState("kind " + kind + ": value", () -> x.value(0));
        due.isIllegalState("kind " + kind + ": range", () -> x.range(0, false));
        due.is("kind " + kind + ": kept", x.kept(0, 0), kind == 1 ? STATE : 1);
    }

    /** '6 a relocation of a placed section': not of one that is not KEPT, nor FOLDED. */
    private static void whatNeedNotFit() {
        SectionGarden x = Gardens.keeping(2, 4);
        x.section(0, 2, 4, 0, 0);
        x.relocation(1, 0, BYTE, x.symbol(0, 1, 0, 0, GLOBAL), 0);
        dueLink(x, "not KEPT", 0, NONE);
        x.mark(1, 0, 1);
        dueLink(x, "KEPT", 6, 0);
        SectionGarden y = Gardens.withTwins(2);
        int here = y.symbol(0, 50, 0, 0, LOCAL);
        y.relocation(1, 0, NEAR, here, LEAST + 15);
        y.relocation(2, 0, NEAR, here, LEAST + 15);
        dueLink(y, "FOLDED", 0, NONE);
        due.is("not FOLDED: link(false)", y.link(false), 6);
        due.is("not FOLDED: fault()", y.fault(), 3);
    }

    private static void theLeastThatDoesNotFit() {
        SectionGarden x = Gardens.keeping(2, 8, 2, 8);
        x.symbol(0, 1, NONE, 0, WEAK);
        for (int i = 0; i < 198; i++) {
            x.relocation(i % 2, 0, BYTE, 0, 255);
        }
        x.relocation(1, 0, BYTE, 0, 255);
        x.relocation(0, 0, BYTE, 0, 256);
        dueLink(x, "the last one", 6, 199);
        SectionGarden y = Gardens.keeping(2, 8, 2, 8);
        y.symbol(0, 1, NONE, 0, WEAK);
        y.relocation(1, 0, HALF, 0, -1);
        y.relocation(0, 0, BYTE, 0, 256);
        dueLink(y, "by numbers, not by sections", 6, 0);
        SectionGarden z = Gardens.keeping(0, 20000);
        z.relocation(0, 0, BRANCH, z.symbol(0, 1, NONE, 0, WEAK), 100000);
        dueLink(z, "a veneer is never too far", 0, NONE);
        due.is("the branch to it", Gardens.numberAt(z, 4096, 2), 20000);
    }

    /** Section 0 is KEPT and has KEEP, 2 is not KEPT, 3 is FOLDED into 1; symbols of each, of nothing and of a set. */
    private static SectionGarden withAll() {
        SectionGarden x = Gardens.keeping(0, 8);
        x.section(0, 0, 4, 0, 7);
        x.section(0, 3, 4, 0, 7);
        x.section(0, 0, 4, 0, 7);
        x.symbol(0, 1, 0, 8, GLOBAL);
        x.symbol(0, 2, 1, 1, LOCAL);
        x.symbol(0, 3, 2, 0, LOCAL);
        x.symbol(0, 4, 3, 1, LOCAL);
        x.symbol(0, 5, NONE, 0, GLOBAL);
        x.symbol(0, 0, -2, 0, LOCAL);
        x.relocation(0, 0, BRANCH, 1, 0);
        x.relocation(0, 4, BRANCH, 3, 0);
        return x;
    }

    /** 'IndexOutOfBoundsException: there is no such section; IllegalStateException: no image, it is not KEPT' */
    private static void placesInEveryState() {
        SectionGarden x = withAll();
        for (int state = 0; state < 3; state++) {
            for (int wrong : new int[] {LEAST, -1, 4, 60, MOST}) {
                due.isIndexOutOfBounds("state " + state + ": place(" + wrong + ")", () -> x.place(wrong));
            }
            if (state == 1) {
                due.is("place(0)", x.place(0), 4096);
                due.is("place(1)", x.place(1), 4104);
                due.isIllegalState("place(2)", () -> x.place(2));
                due.is("place(3), FOLDED", x.place(3), 4104);
                x.root(9);
            } else {
                for (int section = 0; section < 4; section++) {
                    int asked = section;
                    due.isIllegalState("state " + state + ": place(" + section + ")", () -> x.place(asked));
                }
            }
            due.is("link(true)", x.link(true), state == 0 ? 0 : 2);
        }
    }

    /** 'IndexOutOfBoundsException: no such symbol; IllegalStateException: no image, its section is not KEPT' */
    private static void valuesInEveryState() {
        SectionGarden x = withAll();
        for (int state = 0; state < 3; state++) {
            for (int wrong : new int[] {LEAST, -1, 6, 120, MOST}) {
                due.isIndexOutOfBounds("state " + state + ": value(" + wrong + ")", () -> x.value(wrong));
            }
            if (state == 1) {
                due.is("value(0)", x.value(0), 4104);
                due.is("value(1)", x.value(1), 4105);
                due.isIllegalState("value(2)", () -> x.value(2));
                due.is("value(3), FOLDED", x.value(3), 4105);
                due.is("value(4), NOWHERE", x.value(4), 0);
                due.is("value(5), START", x.value(5), 0);
                x.root(9);
            } else {
                for (int symbol = 0; symbol < 6; symbol++) {
                    int asked = symbol;
                    due.isIllegalState("state " + state + ": value(" + symbol + ")", () -> x.value(asked));
                }
            }
            due.is("link(true)", x.link(true), state == 0 ? 0 : 2);
        }
    }

    /** 'The byte at a place; NONE: nothing lies there (0 in zeros)' */
    private static void octetsAtTheEdges() {
        SectionGarden x = Gardens.keeping(0, 3, 3, 2);
        Gardens.keep(x, 0, 2, 3);
        Gardens.keep(x, 3, 1, 4);
        x.patch(0, 2, 255);
        dueLink(x, "octets", 0, NONE);
        long[] places = {Long.MIN_VALUE, -4096, -1, 0, 4095, 4096, 4098, 4099, 4103, 4104, 4105, 4106, 4107, 4108, 4111,
            4112, 4113, 4096 + (1L << 32), 4096 - (1L << 32), Long.MAX_VALUE};
        int[] bytes = {NONE, NONE, NONE, NONE, NONE, 0, 255, NONE, NONE, 0, 1, 0, 0, NONE, NONE,
            0, NONE, NONE, NONE, NONE};
        for (int i = 0; i < places.length; i++) {
            due.is("octet(" + places[i] + ")", x.octet(places[i]), bytes[i]);
        }
        x.base(0, 2000000000);
        x.base(3, 0);
        dueLink(x, "far and near", 0, NONE);
        due.is("octet(-1)", x.octet(-1), NONE);
        due.is("octet(0)", x.octet(0), 0);
        due.is("octet(1999999999)", x.octet(1999999999), NONE);
        due.is("octet(2000000002)", x.octet(2000000002), 255);
        due.is("octet(4096)", x.octet(4096), NONE);
    }

    /** 'STATE (no image)' */
    private static void octetsInEveryState() {
        for (long place : new long[] {Long.MIN_VALUE, -1, 4096, Long.MAX_VALUE}) {
            SectionGarden x = withAll();
            due.is("before any link: octet(" + place + ")", x.octet(place), STATE);
            dueLink(x, "linked", 0, NONE);
            due.is("linked: octet(" + place + ")", x.octet(place), place == 4096 ? 9 : NONE);
            x.root(9);
            due.is("told since: octet(" + place + ")", x.octet(place), STATE);
            dueLink(x, "fault", 2, 0);
            due.is("fault: octet(" + place + ")", x.octet(place), STATE);
        }
    }

    /** 'IndexOutOfBoundsException: another kind; IllegalStateException: no image' */
    private static void rangesInEveryState() {
        SectionGarden x = withAll();
        for (int state = 0; state < 3; state++) {
            for (int wrong : new int[] {LEAST, -1, 4, MOST}) {
                due.isIndexOutOfBounds("state " + state + ": begin of " + wrong, () -> x.range(wrong, false));
                due.isIndexOutOfBounds("state " + state + ": end of " + wrong, () -> x.range(wrong, true));
            }
            if (state == 1) {
                dueRanges(x, "linked", 4096, 4108, 4108, 4108, 4108, 4108, 4108, 4108);
                x.root(9);
            } else {
                for (int kind = 0; kind < 4; kind++) {
                    int asked = kind;
                    due.isIllegalState("state " + state + ": begin of " + kind, () -> x.range(asked, false));
                    due.isIllegalState("state " + state + ": end of " + kind, () -> x.range(asked, true));
                }
            }
            due.is("link(true)", x.link(true), state == 0 ? 0 : 2);
        }
    }

    /** 'UNKNOWN (section), STATE (no image)' */
    private static void veneersInEveryState() {
        SectionGarden x = withAll();
        x.relocation(0, 6, BRANCH, 0, 50000);
        for (int state = 0; state < 3; state++) {
            for (int wrong : new int[] {LEAST, -1, 4, 60, MOST}) {
                due.is("state " + state + ": veneers(" + wrong + ")", x.veneers(wrong), UNKNOWN);
            }
            for (int section = 0; section < 4; section++) {
                int answer = section == 0 ? 1 : 0;
                due.is("state " + state + ": veneers(" + section + ")", x.veneers(section), state == 1 ? answer : STATE);
            }
            if (state == 1) {
                x.root(9);
            }
            due.is("link(true)", x.link(true), state == 0 ? 0 : 2);
        }
    }
}

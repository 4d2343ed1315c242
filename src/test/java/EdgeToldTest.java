/**
 * Promises 1 to 9, and what 'Terms' says of objects, sections, symbols and relocations: at every bound the last
 * value that is taken and the first that is not. That a refused call changes nothing is RefusedTest's.
 */
final class EdgeToldTest {
    private static final int NONE = SectionGarden.NONE;
    private static final int UNKNOWN = SectionGarden.UNKNOWN;
    private static final int OUTSIDE = SectionGarden.OUTSIDE;
    private static final int STATE = SectionGarden.STATE;
    private static final int ROOM = SectionGarden.ROOM;
    private static final int LEAST = Integer.MIN_VALUE;
    private static final int MOST = Integer.MAX_VALUE;
    private static final int BRANCH = 3;

    private static final Due due = new Due("edges of what is told");

    public static void main(String[] args) {
        aNewObjectHasNothing();
        twoGardensAreApart();
        twelveObjects();
        objectsOfSections();
        kindsOfSections();
        sizesOfSections();
        alignsOfSections();
        seedsOfSections();
        sixtySections();
        sixtyThousandBytes();
        aRefusedSectionTakesNoRoom();
        bytesThatArePatched();
        whatABytePatchedWas();
        zerosHaveNoBytes();
        keepIsOneOrNought();
        setsFromNoneToSeven();
        groupsFromNoneToFifteen();
        marksAreThree();
        marksOfOneAreNoOthers();
        objectsOfSymbols();
        sectionsOfSymbols();
        namesOfSymbols();
        offsetsOfSymbols();
        offsetsWithoutASection();
        sortsOfSymbols();
        hundredAndTwentySymbols();
        sectionsOfRelocations();
        symbolsOfRelocations();
        typesOfRelocations();
        offsetsOfRelocations();
        sectionsTooSmallForRelocations();
        branchesOfCodeAlone();
        addendsAreAnyNumber();
        twoHundredRelocations();
        namesOfRoots();
        eightRoots();
        kindsOfBases();
        placesOfBases();
        due.end();
    }

    /** 'No objects, no roots, no image.' */
    private static void aNewObjectHasNothing() {
        SectionGarden x = new SectionGarden();
        for (int what = 0; what <= 8; what++) {
            due.is("new: count(" + what + ")", x.count(what), 0);
        }
        due.is("new: section", x.section(0, 0, 0, 0, 0), UNKNOWN);
        due.is("new: patch", x.patch(0, 0, 0), UNKNOWN);
        due.is("new: mark", x.mark(0, 0, 0), UNKNOWN);
        due.is("new: symbol", x.symbol(0, 0, NONE, 0, 1), UNKNOWN);
        due.is("new: relocation", x.relocation(0, 0, 0, 0, 0), UNKNOWN);
        due.is("new: fault", x.fault(), NONE);
        due.is("new: kept", x.kept(0, 0), UNKNOWN);
        due.is("new: octet", x.octet(0), STATE);
        due.is("new: veneers", x.veneers(0), UNKNOWN);
        due.isIndexOutOfBounds("new: place", () -> x.place(0));
        due.isIndexOutOfBounds("new: value", () -> x.value(0));
        due.isIllegalState("new: range", () -> x.range(0, false));
        for (int kind = 0; kind < 4; kind++) {
            due.is("new: base(" + kind + ", NONE)", x.base(kind, NONE), NONE);
        }
        due.is("new: root(0)", x.root(0), 1);
    }

    private static void twoGardensAreApart() {
        SectionGarden x = Gardens.keeping(2, 4);
        SectionGarden y = new SectionGarden();
        x.root(5);
        x.base(0, 7);
        due.is("the other: count(0)", y.count(0), 0);
        due.is("the other: count(4)", y.count(4), 0);
        due.is("the other: base", y.base(0, NONE), NONE);
        due.is("the other: object", y.object(), 0);
        due.is("the other: kept", y.kept(0, 0), UNKNOWN);
    }

    /** 'OBJECTS 0 .. 11', 'An object more: its number. ROOM.' */
    private static void twelveObjects() {
        SectionGarden x = new SectionGarden();
        for (int i = 0; i <= 11; i++) {
            due.is("object " + i, x.object(), i);
            due.is("count(0)", x.count(0), i + 1);
        }
        due.is("object 12", x.object(), ROOM);
        due.is("object 12 again", x.object(), ROOM);
        due.is("count(0) at last", x.count(0), 12);
    }

    private static void objectsOfSections() {
        int[] objects = {LEAST, -1, 0, 11, 12, MOST};
        int[] answers = {UNKNOWN, UNKNOWN, 0, 1, UNKNOWN, UNKNOWN};
        SectionGarden x = Gardens.withObjects(12);
        for (int i = 0; i < objects.length; i++) {
            due.is("section of object " + objects[i], x.section(objects[i], 0, 4, 0, 0), answers[i]);
        }
        SectionGarden y = Gardens.withObjects(3);
        due.is("the last of three", y.section(2, 0, 4, 0, 0), 0);
        due.is("behind the last of three", y.section(3, 0, 4, 0, 0), UNKNOWN);
    }

    /** 'a KIND (0 code, 1 constants, 2 data, 3 zeros)' */
    private static void kindsOfSections() {
        int[] kinds = {LEAST, -1, 0, 3, 4, MOST};
        int[] answers = {OUTSIDE, OUTSIDE, 0, 1, OUTSIDE, OUTSIDE};
        SectionGarden x = Gardens.withObjects(1);
        for (int i = 0; i < kinds.length; i++) {
            due.is("kind " + kinds[i], x.section(0, kinds[i], 4, 0, 0), answers[i]);
        }
    }

    /** 'a size (0 .. 20000 ..)' */
    private static void sizesOfSections() {
        int[] sizes = {LEAST, -1, 0, 20000, 20001, MOST};
        int[] answers = {OUTSIDE, OUTSIDE, 0, 1, OUTSIDE, OUTSIDE};
        SectionGarden x = Gardens.withObjects(1);
        for (int i = 0; i < sizes.length; i++) {
            due.is("size " + sizes[i], x.section(0, 2, sizes[i], 0, 0), answers[i]);
        }
        x.mark(0, 0, 1);
        x.mark(1, 0, 1);
        due.is("sizes: link", x.link(false), 0);
        due.is("the empty one takes no place", x.place(1), 4096);
        due.is("the largest one ends", x.range(2, true), 24096);
        due.is("its last byte", x.octet(24095), 19999 & 255);
        due.is("behind it", x.octet(24096), NONE);
    }

    /** 'an ALIGN (2 to the power of 0 .. 8)' */
    private static void alignsOfSections() {
        int[] aligns = {LEAST, -1, 9, 31, 32, MOST};
        SectionGarden x = Gardens.withObjects(1);
        for (int align : aligns) {
            due.is("align " + align, x.section(0, 2, 1, align, 0), OUTSIDE);
        }
        x.base(2, 1);
        for (int align = 0; align <= 8; align++) {
            due.is("align " + align, x.section(0, 2, 1, align, 0), align);
            x.mark(align, 0, 1);
        }
        due.is("aligns: link", x.link(false), 0);
        int[] places = {1, 2, 4, 8, 16, 32, 64, 128, 256};
        for (int align = 0; align <= 8; align++) {
            due.is("place with align " + align, x.place(align), places[align]);
        }
    }

    /** 'Its byte i is seed + i, lowest 8 bits.' */
    private static void seedsOfSections() {
        int[] seeds = {0, 255, 256, -1, LEAST, MOST};
        int[] firsts = {0, 255, 0, 255, 0, 255};
        SectionGarden x = Gardens.withObjects(1);
        for (int i = 0; i < seeds.length; i++) {
            x.section(0, i % 3, 300, 0, seeds[i]);
            due.is("byte 0 of seed " + seeds[i], x.patch(i, 0, 0), firsts[i]);
            due.is("byte 1 of seed " + seeds[i], x.patch(i, 1, 0), (firsts[i] + 1) & 255);
            due.is("byte 255 of seed " + seeds[i], x.patch(i, 255, 0), (firsts[i] + 255) & 255);
            due.is("byte 256 of seed " + seeds[i], x.patch(i, 256, 0), firsts[i]);
        }
    }

    /** 'all are numbered as they come: 60 .. at most', ROOM (60 ..) */
    private static void sixtySections() {
        SectionGarden x = Gardens.withObjects(12);
        for (int i = 0; i < 60; i++) {
            due.is("section " + i, x.section(i % 12, i % 4, 0, 0, 0), i);
        }
        due.is("section 60, empty", x.section(0, 0, 0, 0, 0), ROOM);
        due.is("section 60 of the last object", x.section(11, 3, 1, 0, 0), ROOM);
        due.is("OUTSIDE comes before ROOM", x.section(0, 0, 0, 9, 0), OUTSIDE);
        due.is("UNKNOWN comes before OUTSIDE", x.section(12, 0, 0, 9, 0), UNKNOWN);
        due.is("count(1)", x.count(1), 60);
        due.is("section 59 is there", x.mark(59, 0, 1), 0);
        due.is("section 60 is not", x.mark(60, 0, 1), UNKNOWN);
    }

    /** '60000 all together': of all objects and kinds, zeros too. */
    private static void sixtyThousandBytes() {
        SectionGarden x = Gardens.withObjects(2);
        x.section(0, 3, 20000, 0, 0);
        x.section(1, 0, 20000, 0, 0);
        due.is("60000 at once", x.section(1, 1, 20000, 0, 0), 2);
        due.is("one more", x.section(0, 2, 1, 0, 0), ROOM);
        due.is("an empty one more", x.section(0, 2, 0, 0, 0), 3);
        due.is("OUTSIDE comes before ROOM", x.section(0, 2, 20001, 0, 0), OUTSIDE);
    }

    private static void aRefusedSectionTakesNoRoom() {
        SectionGarden x = Gardens.withObjects(1);
        x.section(0, 3, 20000, 0, 0);
        x.section(0, 3, 20000, 0, 0);
        x.section(0, 3, 19998, 0, 0);
        due.is("60001", x.section(0, 3, 3, 0, 0), ROOM);
        due.is("59999", x.section(0, 3, 1, 0, 0), 3);
        due.is("60001 again", x.section(0, 3, 2, 0, 0), ROOM);
        due.is("60000", x.section(0, 3, 1, 0, 0), 4);
        due.is("60001 at last", x.section(0, 3, 1, 0, 0), ROOM);
        due.is("count(1)", x.count(1), 5);
    }

    /** patch: 'OUTSIDE (i)': 0 .. size - 1. */
    private static void bytesThatArePatched() {
        for (int size : new int[] {0, 1, 8, 20000}) {
            SectionGarden x = Gardens.withObjects(1);
            x.section(0, 0, size, 0, 0);
            String of = "size " + size + ": byte ";
            due.is(of + "least", x.patch(0, LEAST, 1), OUTSIDE);
            due.is(of + "-1", x.patch(0, -1, 1), OUTSIDE);
            due.is(of + "behind the last", x.patch(0, size, 1), OUTSIDE);
            due.is(of + "most", x.patch(0, MOST, 1), OUTSIDE);
            if (size > 0) {
                due.is(of + "last", x.patch(0, size - 1, 77), (size - 1) & 255);
                due.is(of + "0", x.patch(0, 0, 1), size == 1 ? 77 : 0);
            }
        }
    }

    /** 'becomes v (lowest 8 bits): what it was' */
    private static void whatABytePatchedWas() {
        SectionGarden x = Gardens.keeping(1, 2);
        int[] given = {255, 256, -1, -256, LEAST, MOST, 128, 383};
        int[] taken = {255, 0, 255, 0, 0, 255, 128, 127};
        int was = 1;
        for (int i = 0; i < given.length; i++) {
            due.is("patch by " + given[i], x.patch(0, 1, given[i]), was);
            was = taken[i];
            due.is("patched: link", x.link(false), 0);
            due.is("patched by " + given[i], x.octet(4097), was);
            due.is("the byte beside it", x.octet(4096), 0);
        }
    }

    /** 'bytes (one of zeros none)', 'UNKNOWN (section, also of zeros)' */
    private static void zerosHaveNoBytes() {
        SectionGarden x = Gardens.withObjects(1);
        for (int kind = 0; kind < 4; kind++) {
            x.section(0, kind, 4, 0, 9);
            due.is("patch of kind " + kind, x.patch(kind, 0, 1), kind == 3 ? UNKNOWN : 9);
        }
        due.is("zeros, a byte that is not there", x.patch(3, 4, 1), UNKNOWN);
        int[] sections = {LEAST, -1, 4, MOST};
        for (int section : sections) {
            due.is("patch of section " + section, x.patch(section, 0, 1), UNKNOWN);
            due.is("patch of section " + section + ", i wrong", x.patch(section, -1, 1), UNKNOWN);
        }
    }

    /** 'what = 0 KEEP (v 1, 0)' */
    private static void keepIsOneOrNought() {
        SectionGarden x = Gardens.withObjects(1);
        x.section(0, 3, 4, 0, 0);
        int[] given = {1, 1, 0, 0, 1};
        int[] was = {0, 1, 1, 0, 0};
        for (int i = 0; i < given.length; i++) {
            due.is("KEEP " + given[i], x.mark(0, 0, given[i]), was[i]);
            for (int v : new int[] {LEAST, -1, 2, MOST}) {
                due.is("KEEP " + v, x.mark(0, 0, v), OUTSIDE);
            }
        }
    }

    /** 'a SET 0 .. 7 (or none)', 'SET (v NONE or 0 .. 7)' */
    private static void setsFromNoneToSeven() {
        dueMarks("SET", 1, 7);
    }

    /** 'a GROUP 0 .. 15 (or none)', 'GROUP (v NONE or 0 .. 15)' */
    private static void groupsFromNoneToFifteen() {
        dueMarks("GROUP", 2, 15);
    }

    private static void dueMarks(String title, int what, int last) {
        SectionGarden x = Gardens.withObjects(1);
        x.section(0, 0, 4, 0, 0);
        int was = NONE;
        for (int v = NONE; v <= last; v++) {
            due.is(title + " " + v, x.mark(0, what, v), was);
            was = v;
            for (int wrong : new int[] {LEAST, -2, last + 1, MOST}) {
                due.is(title + " " + wrong, x.mark(0, what, wrong), OUTSIDE);
            }
        }
        due.is(title + " NONE at last", x.mark(0, what, NONE), last);
        due.is(title + " NONE once more", x.mark(0, what, NONE), NONE);
    }

    /** mark: 'UNKNOWN (section), OUTSIDE' */
    private static void marksAreThree() {
        SectionGarden x = Gardens.withObjects(1);
        x.section(0, 0, 4, 0, 0);
        x.section(0, 3, 4, 0, 0);
        int[] whats = {LEAST, -1, 0, 1, 2, 3, MOST};
        int[] answers = {OUTSIDE, OUTSIDE, 0, NONE, NONE, OUTSIDE, OUTSIDE};
        for (int i = 0; i < whats.length; i++) {
            due.is("mark, what " + whats[i], x.mark(0, whats[i], 0), answers[i]);
            due.is("mark of zeros, what " + whats[i], x.mark(1, whats[i], 0), answers[i]);
            due.is("mark of section -1, what " + whats[i], x.mark(-1, whats[i], 0), UNKNOWN);
            due.is("mark of section 2, what " + whats[i], x.mark(2, whats[i], 99), UNKNOWN);
        }
    }

    private static void marksOfOneAreNoOthers() {
        SectionGarden x = Gardens.withObjects(1);
        x.section(0, 0, 4, 0, 0);
        x.section(0, 0, 4, 0, 0);
        x.mark(0, 0, 1);
        x.mark(0, 1, 5);
        x.mark(0, 2, 6);
        due.is("KEEP of the other", x.mark(1, 0, 0), 0);
        due.is("SET of the other", x.mark(1, 1, NONE), NONE);
        due.is("GROUP of the other", x.mark(1, 2, NONE), NONE);
        due.is("KEEP", x.mark(0, 0, 0), 1);
        due.is("SET", x.mark(0, 1, NONE), 5);
        due.is("GROUP", x.mark(0, 2, NONE), 6);
    }

    private static void objectsOfSymbols() {
        int[] objects = {LEAST, -1, 0, 11, 12, MOST};
        int[] answers = {UNKNOWN, UNKNOWN, 0, 1, UNKNOWN, UNKNOWN};
        SectionGarden x = Gardens.withObjects(12);
        for (int i = 0; i < objects.length; i++) {
            due.is("symbol of object " + objects[i], x.symbol(objects[i], 0, NONE, 0, 1), answers[i]);
        }
        due.is("UNKNOWN comes before OUTSIDE", x.symbol(12, 64, NONE, 1, 3), UNKNOWN);
    }

    /** 'section: one of this object; NONE ..; -2 - k: START of SET k, -10 - k: STOP' */
    private static void sectionsOfSymbols() {
        SectionGarden x = Gardens.withObjects(2);
        x.section(0, 0, 4, 0, 0);
        x.section(1, 0, 4, 0, 0);
        x.section(0, 0, 4, 0, 0);
        int[] sections = {LEAST, -19, -18, 1, 3, 59, MOST};
        for (int section : sections) {
            due.is("section " + section, x.symbol(0, 0, section, 0, 0), UNKNOWN);
            due.is("section " + section + ", name wrong", x.symbol(0, -1, section, 0, 0), UNKNOWN);
        }
        due.is("the first of its own", x.symbol(0, 0, 0, 0, 0), 0);
        due.is("the last of its own", x.symbol(0, 0, 2, 0, 0), 1);
        due.is("NONE", x.symbol(0, 0, NONE, 0, 1), 2);
        for (int section = -2; section >= -17; section--) {
            due.is("section " + section, x.symbol(0, 0, section, 0, 0), 1 - section);
        }
        for (int set = 0; set < 8; set++) {
            dueEdgesOfSet(set);
        }
    }

    private static void dueEdgesOfSet(int set) {
        SectionGarden x = Gardens.keeping(2, 4, 2, 4, 2, 4);
        x.mark(1, 1, set);
        x.mark(2, 1, (set + 1) % 8);
        int start = x.symbol(0, 0, -2 - set, 0, 0);
        int stop = x.symbol(0, 0, -10 - set, 0, 0);
        due.is("set " + set + ": link", x.link(false), 0);
        due.is("START of " + set, x.value(start), 4100);
        due.is("STOP of " + set, x.value(stop), 4104);
    }

    /** 'a NAME (0 .. 63)' */
    private static void namesOfSymbols() {
        SectionGarden x = Gardens.keeping(2, 4);
        int[] names = {LEAST, -1, 0, 63, 64, MOST};
        int[] answers = {OUTSIDE, OUTSIDE, 0, 1, OUTSIDE, OUTSIDE};
        for (int i = 0; i < names.length; i++) {
            due.is("name " + names[i], x.symbol(0, names[i], 0, 2, 1), answers[i]);
        }
        due.is("UNDEFINED, name -1", x.symbol(0, -1, NONE, 0, 1), OUTSIDE);
        due.is("START, name 64", x.symbol(0, 64, -2, 0, 0), OUTSIDE);
        due.is("root of the first name", x.root(0), 1);
        due.is("root of the last name", x.root(63), 2);
        due.is("names: link", x.link(false), 0);
    }

    /** 'an offset (0 .. its size)' */
    private static void offsetsOfSymbols() {
        for (int size : new int[] {0, 1, 20000}) {
            SectionGarden x = Gardens.keeping(2, size);
            int[] offsets = {LEAST, -1, 0, size, size + 1, MOST};
            int[] answers = {OUTSIDE, OUTSIDE, 0, 1, OUTSIDE, OUTSIDE};
            for (int i = 0; i < offsets.length; i++) {
                due.is("size " + size + ", offset " + offsets[i], x.symbol(0, i, 0, offsets[i], i % 3), answers[i]);
            }
            due.is("offsets: link", x.link(false), 0);
            due.is("value at the start", x.value(0), 4096);
            due.is("value at the end", x.value(1), 4096 + size);
        }
    }

    /** 'offset .. 0 without a section' */
    private static void offsetsWithoutASection() {
        SectionGarden x = Gardens.keeping(2, 8);
        int[] sections = {NONE, -2, -9, -10, -17};
        for (int i = 0; i < sections.length; i++) {
            int sort = i == 0 ? 2 : 0;
            for (int offset : new int[] {LEAST, -1, 1, 8, MOST}) {
                due.is(sections[i] + " at " + offset, x.symbol(0, 0, sections[i], offset, sort), OUTSIDE);
            }
            due.is(sections[i] + " at 0", x.symbol(0, 0, sections[i], 0, sort), i);
        }
    }

    /** 'UNDEFINED (GLOBAL, WEAK)', 'START .. STOP (LOCAL)' */
    private static void sortsOfSymbols() {
        SectionGarden x = Gardens.keeping(2, 8);
        int[] sections = {0, NONE, -2, -9, -10, -17};
        int[] firsts = {0, 1, 0, 0, 0, 0};
        int[] lasts = {2, 2, 0, 0, 0, 0};
        int number = 0;
        for (int i = 0; i < sections.length; i++) {
            for (int sort : new int[] {LEAST, -1, 0, 1, 2, 3, MOST}) {
                boolean taken = sort >= firsts[i] && sort <= lasts[i];
                due.is("section " + sections[i] + ", sort " + sort, x.symbol(0, 7, sections[i], 0, sort),
                    taken ? number : OUTSIDE);
                number += taken ? 1 : 0;
            }
        }
        due.is("count(2)", x.count(2), number);
    }

    private static void hundredAndTwentySymbols() {
        SectionGarden x = Gardens.withObjects(2);
        x.section(1, 2, 4, 0, 0);
        for (int i = 0; i < 120; i++) {
            int taken = i % 2 == 0 ? x.symbol(1, i % 64, 0, 4, 0) : x.symbol(0, i % 64, NONE, 0, 2);
            due.is("symbol " + i, taken, i);
        }
        due.is("symbol 120", x.symbol(1, 0, 0, 0, 0), ROOM);
        due.is("UNDEFINED 120", x.symbol(0, 0, NONE, 0, 1), ROOM);
        due.is("STOP 120", x.symbol(0, 0, -10, 0, 0), ROOM);
        due.is("OUTSIDE comes before ROOM", x.symbol(1, 0, 0, 5, 0), OUTSIDE);
        due.is("UNKNOWN comes before ROOM", x.symbol(0, 0, 0, 0, 0), UNKNOWN);
        due.is("count(2)", x.count(2), 120);
        due.is("symbol 118 is there", x.relocation(0, 0, 0, 118, 0), 0);
        due.is("symbol 120 is not", x.relocation(0, 0, 0, 120, 0), UNKNOWN);
    }

    /** 'UNKNOWN (section, also of zeros ..)' */
    private static void sectionsOfRelocations() {
        SectionGarden x = Gardens.withObjects(1);
        for (int kind = 0; kind < 4; kind++) {
            x.section(0, kind, 8, 0, 0);
        }
        x.symbol(0, 0, 0, 0, 0);
        int[] sections = {LEAST, -1, 0, 1, 2, 3, 4, MOST};
        int[] answers = {UNKNOWN, UNKNOWN, 0, 1, 2, UNKNOWN, UNKNOWN, UNKNOWN};
        for (int i = 0; i < sections.length; i++) {
            due.is("relocation of section " + sections[i], x.relocation(sections[i], 0, 0, 0, 0), answers[i]);
        }
        due.is("UNKNOWN comes before OUTSIDE", x.relocation(3, 9, 5, 0, 0), UNKNOWN);
    }

    /** 'UNKNOWN (.. symbol: of another object)' */
    private static void symbolsOfRelocations() {
        SectionGarden x = Gardens.withObjects(2);
        x.section(0, 0, 8, 0, 0);
        x.section(1, 0, 8, 0, 0);
        x.symbol(0, 0, 0, 0, 1);
        x.symbol(1, 0, NONE, 0, 1);
        x.symbol(0, 0, -2, 0, 0);
        int[] symbols = {LEAST, -1, 0, 1, 2, 3, MOST};
        int[] answers = {UNKNOWN, UNKNOWN, 0, UNKNOWN, 1, UNKNOWN, UNKNOWN};
        for (int i = 0; i < symbols.length; i++) {
            due.is("relocation by symbol " + symbols[i], x.relocation(0, 0, 0, symbols[i], 0), answers[i]);
        }
        due.is("by the same name of its own object", x.relocation(1, 0, 0, 1, 0), 2);
        due.is("by the other's DEFINED symbol", x.relocation(1, 0, 0, 0, 0), UNKNOWN);
        due.is("UNKNOWN comes before OUTSIDE", x.relocation(0, -1, 5, 1, 0), UNKNOWN);
    }

    private static void typesOfRelocations() {
        SectionGarden x = Gardens.keeping(0, 8);
        x.symbol(0, 0, 0, 0, 1);
        int[] types = {LEAST, -1, 0, 1, 2, 3, 4, 5, MOST};
        int[] answers = {OUTSIDE, OUTSIDE, 0, 1, 2, 3, 4, OUTSIDE, OUTSIDE};
        for (int i = 0; i < types.length; i++) {
            due.is("type " + types[i], x.relocation(0, 0, types[i], 0, 0), answers[i]);
        }
    }

    /** 'its bytes lie within it': the last offset is the size less the bytes of the TYPE. */
    private static void offsetsOfRelocations() {
        for (int size : new int[] {4, 5, 20000}) {
            for (int type = 0; type < 5; type++) {
                SectionGarden x = Gardens.keeping(0, size);
                x.symbol(0, 0, 0, 0, 1);
                int last = size - PlainModel.WIDTH[type];
                int[] offsets = {LEAST, -1, 0, last, last + 1, size, MOST};
                int[] answers = {OUTSIDE, OUTSIDE, 0, 1, OUTSIDE, OUTSIDE, OUTSIDE};
                for (int i = 0; i < offsets.length; i++) {
                    String call = "size " + size + ", type " + type + " at " + offsets[i];
                    due.is(call, x.relocation(0, offsets[i], type, 0, 0), answers[i]);
                }
            }
        }
    }

    private static void sectionsTooSmallForRelocations() {
        for (int type = 0; type < 5; type++) {
            for (int size = 0; size <= 4; size++) {
                SectionGarden x = Gardens.keeping(0, size);
                x.symbol(0, 0, 0, 0, 1);
                int answer = size < PlainModel.WIDTH[type] ? OUTSIDE : 0;
                due.is("size " + size + ", type " + type, x.relocation(0, 0, type, 0, 0), answer);
            }
        }
    }

    /** 'BRANCH, two (of code alone)', 'OUTSIDE (.. BRANCH of what is no code)' */
    private static void branchesOfCodeAlone() {
        SectionGarden x = Gardens.keeping(0, 8, 1, 8, 2, 8);
        x.symbol(0, 0, 0, 0, 1);
        due.is("BRANCH of code", x.relocation(0, 0, BRANCH, 0, 0), 0);
        due.is("BRANCH of constants", x.relocation(1, 0, BRANCH, 0, 0), OUTSIDE);
        due.is("BRANCH of data", x.relocation(2, 0, BRANCH, 0, 0), OUTSIDE);
        for (int type = 0; type < 5; type++) {
            if (type != BRANCH) {
                due.is("constants, type " + type, x.relocation(1, 0, type, 0, 0), x.count(3) - 1);
                due.is("data, type " + type, x.relocation(2, 0, type, 0, 0), x.count(3) - 1);
            }
        }
    }

    /** 'an ADDEND (int)' */
    private static void addendsAreAnyNumber() {
        SectionGarden x = Gardens.keeping(2, 8);
        x.symbol(0, 0, NONE, 0, 2);
        due.is("the largest ADDEND", x.relocation(0, 0, 0, 0, MOST), 0);
        due.is("the least ADDEND", x.relocation(0, 4, 2, 0, LEAST), 1);
        due.is("addends: link", x.link(false), 6);
        due.is("the least one is too far from 4100", x.fault(), 1);
        x.base(2, 0);
        due.is("addends: link", x.link(false), 6);
        SectionGarden y = Gardens.keeping(2, 8);
        y.symbol(0, 0, 0, 0, 0);
        y.relocation(0, 0, 2, 0, LEAST);
        y.relocation(0, 4, 0, 0, MOST);
        due.is("addends: link", y.link(false), 0);
        due.is("the least one fits at its own place", Gardens.numberAt(y, 4096, 4), 2147483648L);
        due.is("the largest one", Gardens.numberAt(y, 4100, 4), 2147483647L + 4096);
    }

    private static void twoHundredRelocations() {
        SectionGarden x = Gardens.keeping(0, 8, 2, 8);
        x.symbol(0, 0, 0, 0, 1);
        for (int i = 0; i < 200; i++) {
            due.is("relocation " + i, x.relocation(i % 2, 0, 0, 0, 0), i);
        }
        due.is("relocation 200", x.relocation(0, 0, 0, 0, 0), ROOM);
        due.is("relocation 200 of another section", x.relocation(1, 0, 0, 0, 0), ROOM);
        due.is("OUTSIDE comes before ROOM", x.relocation(0, 5, 0, 0, 0), OUTSIDE);
        due.is("BRANCH of data comes before ROOM", x.relocation(1, 0, BRANCH, 0, 0), OUTSIDE);
        due.is("UNKNOWN comes before ROOM", x.relocation(2, 0, 0, 0, 0), UNKNOWN);
        due.is("count(3)", x.count(3), 200);
    }

    /** 'OUTSIDE (0 .. 63)' */
    private static void namesOfRoots() {
        SectionGarden x = new SectionGarden();
        int[] names = {LEAST, -1, 0, 63, 64, MOST};
        int[] answers = {OUTSIDE, OUTSIDE, 1, 2, OUTSIDE, OUTSIDE};
        for (int i = 0; i < names.length; i++) {
            due.is("root " + names[i], x.root(names[i]), answers[i]);
        }
    }

    /** 'A ROOT more (a name): how many there are .. ROOM (8)': a name may be told twice. */
    private static void eightRoots() {
        SectionGarden x = Gardens.keeping(2, 4);
        x.symbol(0, 3, 0, 0, 1);
        for (int i = 1; i <= 8; i++) {
            due.is("root " + i, x.root(3), i);
            due.is("count(4)", x.count(4), i);
        }
        due.is("a ninth", x.root(3), ROOM);
        due.is("OUTSIDE comes before ROOM", x.root(64), OUTSIDE);
        due.is("count(4)", x.count(4), 8);
        due.is("eight roots: link", x.link(true), 0);
        due.is("KEPT once", x.count(5), 1);
        SectionGarden y = Gardens.keeping(2, 4);
        y.symbol(0, 3, 0, 0, 1);
        for (int i = 0; i < 8; i++) {
            y.root(i == 7 ? 4 : 3);
        }
        due.is("the eighth is NOWHERE: link", y.link(true), 2);
        due.is("the eighth", y.fault(), 7);
    }

    private static void kindsOfBases() {
        SectionGarden x = new SectionGarden();
        int[] kinds = {LEAST, -1, 0, 1, 2, 3, 4, MOST};
        int[] answers = {OUTSIDE, OUTSIDE, NONE, NONE, NONE, NONE, OUTSIDE, OUTSIDE};
        for (int i = 0; i < kinds.length; i++) {
            due.is("base of kind " + kinds[i], x.base(kinds[i], 100 * i), answers[i]);
        }
        due.is("bases: link", x.link(false), 0);
        for (int kind = 0; kind < 4; kind++) {
            due.is("range of kind " + kind, x.range(kind, false), 100 * (kind + 2));
        }
        for (int kind = 0; kind < 4; kind++) {
            due.is("base of kind " + kind + " again", x.base(kind, NONE), 100 * (kind + 2));
        }
    }

    /** 'The BASE of a KIND (0 .. 2000000000), or none (NONE): what it was. OUTSIDE.' */
    private static void placesOfBases() {
        for (int kind = 0; kind < 4; kind++) {
            SectionGarden x = new SectionGarden();
            int[] places = {LEAST, -2, NONE, 0, 2000000000, 2000000001, MOST, NONE, NONE};
            int[] answers = {OUTSIDE, OUTSIDE, NONE, NONE, 0, OUTSIDE, OUTSIDE, 2000000000, NONE};
            for (int i = 0; i < places.length; i++) {
                due.is("base " + places[i] + " of kind " + kind, x.base(kind, places[i]), answers[i]);
            }
            x.base(kind, 0);
            due.is("base 0: link", x.link(false), 0);
            due.is("it begins at 0", x.range(kind, false), 0);
            x.base(kind, 2000000000);
            due.is("base 2000000000: link", x.link(false), 0);
            due.is("it begins at 2000000000", x.range(kind, false), 2000000000);
            x.base(kind, NONE);
            due.is("no base: link", x.link(false), 0);
            due.is("it begins at 4096", x.range(kind, false), 4096);
        }
    }
}

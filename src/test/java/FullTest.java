import java.util.Random;

/** As much told as the document allows: 12 objects, 60 sections of 60000 bytes, 120 symbols, 200 relocations, 8 roots. */
final class FullTest {
    private static final int WORD = 0;
    private static final int NEAR = 2;
    private static final int BRANCH = 3;
    private static final int BYTE = 4;
    private static final int LOCAL = 0;
    private static final int GLOBAL = 1;
    private static final int WEAK = 2;

    private static final Due due = new Due("full");

    public static void main(String[] args) {
        int[] kinds = new int[7];
        for (int seed = 0; seed < 24; seed++) {
            kinds[fullGarden(seed)]++;
        }
        System.out.println("full gardens by kind of fault: " + java.util.Arrays.toString(kinds));
        due.is("most full gardens get an image", kinds[0] >= 12 ? 1 : 0, 1);
        twoHundredVeneers();
        twoHundredRounds();
        allOfOneSet();
        allOfOneGroup();
        due.end();
    }

    private static int fullGarden(int seed) {
        Random chance = new Random(seed);
        Pair pair = new Pair(due, "full garden " + seed);
        pair.tellObjects(12);
        tellSections(pair, chance);
        for (int i = 0; i < 120; i++) {
            tellSymbol(pair, chance, i);
        }
        for (int i = 0; i < 200; i++) {
            tellRelocation(pair, chance, i);
        }
        for (int i = 0; i < 8; i++) {
            pair.tellRoot(chance.nextInt(60));
        }
        int base = chance.nextInt(3) * 1000000;
        pair.tellBase(0, base);
        pair.tellBase(2, base + 100000);
        pair.tellBase(3, 2000000000);
        dueFull(pair);
        pair.compareLink(chance.nextInt(3) != 0);
        pair.compareWhatIsLeft();
        return pair.model.faultKind;
    }

    /** Three of them have most of the 60000 bytes; the others, of 40 bytes each, are alike where they may be. */
    private static void tellSections(Pair pair, Random chance) {
        int left = 60000 - 57 * 40;
        for (int i = 0; i < 60; i++) {
            int size = 40;
            if (i % 20 == 7) {
                size = i == 47 ? left : 19000 + chance.nextInt(100);
                left -= size;
            }
            int kind = i % 20 == 7 ? chance.nextInt(3) : chance.nextInt(4) * chance.nextInt(2);
            pair.tellSection(i % 12, kind, size, chance.nextInt(3), 7);
            if (i % 4 == 0) {
                pair.tellMark(i, 0, chance.nextInt(2));
            } else if (i % 4 == 1) {
                pair.tellMark(i, 1, chance.nextInt(8));
            }
        }
    }

    private static void tellSymbol(Pair pair, Random chance, int i) {
        int section = i % 60;
        if (i < 60) {
            pair.tellSymbol(section % 12, i, section, 4 * chance.nextInt(10), chance.nextInt(9) == 0 ? WEAK : GLOBAL);
        } else if (i < 96) {
            pair.tellSymbol(i % 12, chance.nextInt(60), -1, 0, 1 + chance.nextInt(2));
        } else if (i < 108) {
            pair.tellSymbol(i % 12, 63, -1, 0, WEAK);
        } else {
            pair.tellSymbol(i % 12, 0, -2 - chance.nextInt(16), 0, LOCAL);
        }
    }

    private static void tellRelocation(Pair pair, Random chance, int i) {
        int section = i % 60;
        while (pair.model.sections.get(section)[1] == 3) {
            section = (section + 1) % 60;
        }
        boolean code = pair.model.sections.get(section)[1] == 0;
        int symbol = section % 12 + 12 * chance.nextInt(10);
        boolean nowhere = symbol >= 96 && symbol < 108;
        int type = nowhere ? BYTE : code && chance.nextInt(8) != 0 ? BRANCH : chance.nextInt(2) == 0 ? WORD : NEAR;
        int offset = 4 * (i / 60) + (type == BYTE ? 20 : 0);
        pair.tellRelocation(section, offset, type, symbol, nowhere ? chance.nextInt(384) - 128 : 4 * chance.nextInt(2));
    }

    private static void dueFull(Pair pair) {
        SectionGarden x = pair.x;
        int[] counts = {12, 60, 120, 200, 8};
        for (int what = 0; what < counts.length; what++) {
            due.is("count(" + what + ")", x.count(what), counts[what]);
        }
        due.is("object()", x.object(), SectionGarden.ROOM);
        due.is("section(0, 3, 0, 0, 0)", x.section(0, 3, 0, 0, 0), SectionGarden.ROOM);
        due.is("symbol(0, 0, -1, 0, 1)", x.symbol(0, 0, -1, 0, 1), SectionGarden.ROOM);
        int[] last = pair.model.relocations.get(199);
        due.is("relocation(..)", x.relocation(last[0], 0, WORD, last[3], 0), SectionGarden.ROOM);
        due.is("root(0)", x.root(0), SectionGarden.ROOM);
    }

    /** The largest section, and as many veneers behind it as there can be: the last one is 21592 bytes away. */
    private static void twoHundredVeneers() {
        Pair pair = new Pair(due, "200 veneers");
        pair.tellObjects(1);
        pair.tellSection(0, 0, 20000, 0, 0);
        pair.tellMark(0, 0, 1);
        pair.tellSymbol(0, 0, -1, 0, WEAK);
        for (int i = 0; i < 200; i++) {
            pair.tellRelocation(0, i == 199 ? 0 : 2 * i + 2, BRANCH, 0, 1000000 + i);
        }
        pair.compareLink(false);
        due.is("veneers(0)", pair.x.veneers(0), 200);
        due.is("count(7)", pair.x.count(7), 2);
        due.is("the branch to the last one", Gardens.numberAt(pair.x, 4096, 2), 20000 + 199 * 8);
        due.is("range(0, true)", pair.x.range(0, true), 4096 + 20000 + 1600);
    }

    /** Each veneer moves the TARGET by 8, and so one BRANCH more is too far: all is placed 201 times. */
    private static void twoHundredRounds() {
        Pair pair = new Pair(due, "200 rounds");
        pair.tellObjects(1);
        pair.tellSection(0, 0, 400, 0, 0);
        pair.tellSection(0, 0, 4, 0, 0);
        pair.tellMark(0, 0, 1);
        pair.tellSymbol(0, 0, 1, 0, LOCAL);
        for (int i = 0; i < 200; i++) {
            pair.tellRelocation(0, 2 * i, BRANCH, 0, 32768 - 8 * i - 400 + 2 * i);
        }
        pair.compareLink(false);
        due.is("count(7)", pair.x.count(7), 201);
        due.is("count(8)", pair.x.count(8), 200);
        due.is("place(1)", pair.x.place(1), 4096 + 400 + 1600);
    }

    private static void allOfOneSet() {
        Pair pair = new Pair(due, "one set");
        pair.tellObjects(1);
        for (int i = 0; i < 60; i++) {
            pair.tellSection(0, i % 4, 1000, 8, i);
            pair.tellMark(i, 1, 7);
        }
        pair.tellMark(59, 0, 1);
        pair.tellSymbol(0, 0, -9, 0, LOCAL);
        pair.tellSymbol(0, 0, -17, 0, LOCAL);
        pair.tellRelocation(58, 0, WORD, 1, 0);
        pair.compareLink(true);
        due.is("one alone: count(5)", pair.x.count(5), 1);
        pair.tellMark(58, 0, 1);
        pair.compareLink(true);
        due.is("all: count(5)", pair.x.count(5), 60);
        due.is("START", pair.x.value(0), 4096);
        due.is("STOP", pair.x.value(1), 4096 + 59 * 1024 + 1000);
    }

    private static void allOfOneGroup() {
        Pair pair = new Pair(due, "one group");
        pair.tellObjects(12);
        for (int i = 0; i < 60; i++) {
            pair.tellSection(i < 55 ? 0 : i - 48, 0, 8, 0, 5);
            pair.tellMark(i, 2, 15);
        }
        pair.tellSymbol(0, 1, 20, 0, GLOBAL);
        pair.tellRoot(1);
        pair.compareLink(true);
        due.is("count(5)", pair.x.count(5), 55);
        due.is("count(6)", pair.x.count(6), 54);
        due.is("BY", pair.x.kept(54, 1), 20);
        due.is("LOST", pair.x.kept(55, 3), 1);
    }
}

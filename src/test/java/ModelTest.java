import java.util.Random;

/** Many gardens, made by chance but always the same ones, against the plain model of the document. */
final class ModelTest {
    private static final int GARDENS = 4000;

    private final Random chance;
    private final Pair pair;
    private final PlainModel model;
    private int objects;

    private ModelTest(Due due, int garden) {
        chance = new Random(garden);
        pair = new Pair(due, "garden " + garden);
        model = pair.model;
    }

    public static void main(String[] args) {
        Due due = new Due("model");
        int[] faults = new int[7];
        int folds = 0;
        int veneers = 0;
        int longer = 0;
        for (int garden = 0; garden < GARDENS; garden++) {
            ModelTest test = new ModelTest(due, garden);
            SectionGarden x = test.pair.x;
            switch (garden % 4) {
                case 0 -> test.buildTwins();
                case 1 -> test.buildRow();
                default -> test.build();
            }
            for (int round = 0; round < 4; round++) {
                test.pair.compareLink(test.chance.nextInt(4) != 0);
                faults[test.model.faultKind]++;
                folds += x.count(6) > 0 ? 1 : 0;
                veneers += x.count(8) > 0 ? 1 : 0;
                longer += x.count(7) > 2 ? 1 : 0;
                test.change();
            }
        }
        System.out.println("faults by kind: " + java.util.Arrays.toString(faults)
            + ", with folds: " + folds + ", with veneers: " + veneers + ", with more than two rounds: " + longer);
        for (int kind = 0; kind <= 6; kind++) {
            due.is("links with fault " + kind + " were met", faults[kind] > 20 ? 1 : 0, 1);
        }
        due.is("folds, veneers and rounds were met", folds > 500 && veneers > 500 && longer > 100 ? 1 : 0, 1);
        due.end();
    }

    private void build() {
        objects = 1 + chance.nextInt(4);
        pair.tellObjects(objects);
        boolean wide = chance.nextInt(3) == 0;
        for (int i = 2 + chance.nextInt(14); i > 0; i--) {
            addSection(wide);
        }
        for (int i = 3 + chance.nextInt(24); i > 0; i--) {
            addSymbol();
        }
        int most = chance.nextInt(2) == 0 ? 120 : 30;
        for (int i = chance.nextInt(most); i > 0; i--) {
            addRelocation(wide);
        }
        for (int i = chance.nextInt(4); i > 0; i--) {
            addRoot();
        }
        if (chance.nextInt(3) == 0) {
            setBase();
        }
    }

    /** Many small sections of code that branch to one another, so that some are alike. */
    private void buildTwins() {
        objects = 1;
        pair.tellObjects(1);
        int sections = 3 + chance.nextInt(12);
        int branches = 1 + chance.nextInt(2);
        pair.tellSection(0, 0, 4 * sections, 0, 0);
        pair.tellMark(0, 0, 1);
        for (int i = 1; i <= sections; i++) {
            pair.tellSection(0, chance.nextInt(8) == 0 ? 1 : 0, 8, 2, 0);
            pair.tellSymbol(0, i, i, 4 * chance.nextInt(8) / 7, 0);
        }
        pair.tellSymbol(0, 60, -1, 0, 2);
        pair.tellSymbol(0, 61, -1, 0, 2);
        pair.tellSymbol(0, 0, -2, 0, 0);
        pair.tellSymbol(0, 0, -10, 0, 0);
        for (int i = 1; i <= sections; i++) {
            pair.tellRelocation(0, 4 * (i - 1), chance.nextInt(30) == 0 ? 0 : 3, i - 1, 0);
            for (int b = 0; b < branches && model.sections.get(i)[1] == 0; b++) {
                int to = chance.nextInt(6) == 0 ? sections + chance.nextInt(4) : chance.nextInt(sections);
                pair.tellRelocation(i, 4 * b, 3, to, chance.nextInt(20) == 0 ? 1 : 0);
            }
        }
        for (int i = chance.nextInt(4); i > 0; i--) {
            pair.tellPatch(1 + chance.nextInt(sections), 7, chance.nextInt(2) == 0 ? 7 : 263);
        }
    }

    /** A row of code whose branches only just reach, so that a veneer makes others necessary. */
    private void buildRow() {
        objects = 1;
        pair.tellObjects(1);
        int sections = 2 + chance.nextInt(12);
        for (int i = 0; i < sections; i++) {
            pair.tellSection(0, 0, 6, 1, i);
            pair.tellMark(i, 0, 1);
            pair.tellSymbol(0, i, i, 0, 0);
        }
        pair.tellSymbol(0, 63, -1, 0, 2);
        for (int i = chance.nextInt(3 * sections); i >= 0; i--) {
            int from = chance.nextInt(sections);
            int to = chance.nextInt(sections);
            int offset = 2 * chance.nextInt(3);
            int edge = chance.nextInt(2) == 0 ? 32767 : -32768;
            int slack = chance.nextInt(50) - 5;
            int addend = edge - 6 * (to - from) + offset - (edge > 0 ? slack : -slack);
            pair.tellRelocation(from, offset, 3, chance.nextInt(9) == 0 ? sections : to, addend);
        }
    }

    private void change() {
        switch (chance.nextInt(7)) {
            case 0 -> addSection(false);
            case 1 -> addSymbol();
            case 2 -> addRelocation(false);
            case 3 -> setMark(chance.nextInt(model.sections.size()), chance.nextInt(3));
            case 4 -> setBase();
            case 5 -> patch();
            default -> addRoot();
        }
        pair.compareWhatIsLeft();
    }

    private void addSection(boolean wide) {
        int object = chance.nextInt(objects);
        int kind = chance.nextInt(10) < 7 ? chance.nextInt(2) : 2 + chance.nextInt(2);
        int size = 4 * chance.nextInt(4) + (chance.nextInt(4) == 0 ? chance.nextInt(7) : 0);
        size = wide && chance.nextInt(5) == 0 ? 19000 + chance.nextInt(1000) : size;
        int align = chance.nextInt(3);
        int seed = chance.nextInt(2);
        int sum = size;
        for (int[] section : model.sections) {
            sum += section[2];
        }
        if (sum <= 60000) {
            int section = model.sections.size();
            pair.tellSection(object, kind, size, align, seed);
            setMark(section, 0);
            setMark(section, 1);
            setMark(section, 2);
        }
    }

    private void setMark(int section, int what) {
        int v = what == 0 ? (chance.nextInt(6) == 0 ? 1 : 0) : -1;
        v = what == 1 && chance.nextInt(8) == 0 ? chance.nextInt(3) : v;
        v = what == 2 && chance.nextInt(4) == 0 ? chance.nextInt(4) : v;
        pair.tellMark(section, what, v);
    }

    private void addSymbol() {
        int section = chance.nextInt(model.sections.size());
        int object = model.sections.get(section)[0];
        int offset = chance.nextInt(3) == 0 ? chance.nextInt(model.sections.get(section)[2] + 1) : 0;
        int sort = chance.nextInt(3);
        int name = sort == 1 && chance.nextInt(12) != 0 ? model.symbols.size() : chance.nextInt(12);
        if (chance.nextInt(3) == 0) {
            section = -1 - chance.nextInt(4) * chance.nextInt(2) - chance.nextInt(2) * 8;
            offset = 0;
            sort = section == -1 ? 1 + chance.nextInt(2) : 0;
            section = section == -9 ? -10 : section;
        }
        pair.tellSymbol(object, name, section, offset, sort);
    }

    private void addRelocation(boolean wide) {
        int symbol = chance.nextInt(model.symbols.size());
        int section = chance.nextInt(model.sections.size());
        int type = chance.nextInt(3) == 0 ? chance.nextInt(5) : 3;
        int[] home = model.sections.get(section);
        int room = home[2] - PlainModel.WIDTH[type];
        int[] to = model.symbols.get(symbol);
        if (to[0] != home[0] || home[1] == 3 || room < 0 || (type == 3 && home[1] != 0)) {
            return;
        }
        int offset = room > 3 && chance.nextInt(3) != 0 ? 4 * chance.nextInt(room / 4 + 1) : chance.nextInt(room + 1);
        int addend = chance.nextInt(4) == 0 ? chance.nextInt(9) - 4 : 0;
        boolean far = wide && (type == 3 || type == 0) && chance.nextInt(2) == 0;
        addend = far ? 32600 + chance.nextInt(200) : addend;
        pair.tellRelocation(section, offset, type, symbol, addend);
    }

    private void addRoot() {
        int[] symbol = model.symbols.get(chance.nextInt(model.symbols.size()));
        for (int i = 0; i < 9 && (symbol[2] < 0 || symbol[4] == 0); i++) {
            symbol = model.symbols.get(chance.nextInt(model.symbols.size()));
        }
        if (model.roots.size() < 8) {
            pair.tellRoot(symbol[1]);
        }
    }

    private void setBase() {
        int kind = chance.nextInt(4);
        boolean none = chance.nextInt(5) == 0;
        int place = chance.nextInt(3) == 0 ? 4090 + chance.nextInt(60) : chance.nextInt(90000);
        pair.tellBase(kind, none ? -1 : place);
    }

    private void patch() {
        int section = chance.nextInt(model.sections.size());
        int[] home = model.sections.get(section);
        if (home[1] != 3 && home[2] > 0) {
            pair.tellPatch(section, chance.nextInt(home[2]), chance.nextInt());
        } else {
            addRoot();
        }
    }
}

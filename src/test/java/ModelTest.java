import java.util.Random;

/** Many gardens, made by chance but always the same ones, against the plain model of the document. */
final class ModelTest {
    private static final int GARDENS = 4000;

    private final Due due;
    private final Random chance;
    private final int garden;
    private final SectionGarden x = new SectionGarden();
    private final PlainModel model = new PlainModel();
    private int objects;
    private boolean told;

    private ModelTest(Due due, int garden) {
        this.due = due;
        this.garden = garden;
        this.chance = new Random(garden);
    }

    public static void main(String[] args) {
        Due due = new Due("model");
        int[] faults = new int[7];
        int folds = 0;
        int veneers = 0;
        int longer = 0;
        for (int garden = 0; garden < GARDENS; garden++) {
            ModelTest test = new ModelTest(due, garden);
            switch (garden % 4) {
                case 0 -> test.buildTwins();
                case 1 -> test.buildRow();
                default -> test.build();
            }
            for (int round = 0; round < 4; round++) {
                test.compareLink(test.chance.nextInt(4) != 0);
                faults[test.model.faultKind]++;
                folds += test.x.count(6) > 0 ? 1 : 0;
                veneers += test.x.count(8) > 0 ? 1 : 0;
                longer += test.x.count(7) > 2 ? 1 : 0;
                test.change();
            }
        }
        System.out.println("faults by kind: " + java.util.Arrays.toString(faults)
            + ", with folds: " + folds + ", with veneers: " + veneers + ", with more than two rounds: " + longer);
        for (int kind = 0; kind <= 6; kind++) {
            due.is("links with fault " + kind + " were met", faults[kind] > 20 ? 1 : 0, 1);
        }
        due.is("folds, veneers and rounds were met", folds > 500 && veneers > 500 && longer > 100 ? 1 : 0, 1);
        due.end();
    }

    private void build() {
        objects = 1 + chance.nextInt(4);
        for (int i = 0; i < objects; i++) {
            due.is("object()", x.object(), i);
        }
        boolean wide = chance.nextInt(3) == 0;
        for (int i = 2 + chance.nextInt(14); i > 0; i--) {
            addSection(wide);
        }
        for (int i = 3 + chance.nextInt(24); i > 0; i--) {
            addSymbol();
        }
        int most = chance.nextInt(2) == 0 ? 120 : 30;
        for (int i = chance.nextInt(most); i > 0; i--) {
            addRelocation(wide);
        }
        for (int i = chance.nextInt(4); i > 0; i--) {
            addRoot();
        }
        if (chance.nextInt(3) == 0) {
            setBase();
        }
    }

    /** Many small sections of code that branch to one another, so that some are alike. */
    private void buildTwins() {
        objects = 1;
        x.object();
        int sections = 3 + chance.nextInt(12);
        int branches = 1 + chance.nextInt(2);
        tellSection(0, 0, 4 * sections, 0, 0);
        x.mark(0, 0, 1);
        model.sections.get(0)[4] = 1;
        for (int i = 1; i <= sections; i++) {
            tellSection(0, chance.nextInt(8) == 0 ? 1 : 0, 8, 2, 0);
            tellSymbol(0, i, i, 4 * chance.nextInt(8) / 7, 0);
        }
        tellSymbol(0, 60, -1, 0, 2);
        tellSymbol(0, 61, -1, 0, 2);
        tellSymbol(0, 0, -2, 0, 0);
        tellSymbol(0, 0, -10, 0, 0);
        for (int i = 1; i <= sections; i++) {
            tellRelocation(0, 4 * (i - 1), chance.nextInt(30) == 0 ? 0 : 3, i - 1, 0);
            for (int b = 0; b < branches && model.sections.get(i)[1] == 0; b++) {
                int to = chance.nextInt(6) == 0 ? sections + chance.nextInt(4) : chance.nextInt(sections);
                tellRelocation(i, 4 * b, 3, to, chance.nextInt(20) == 0 ? 1 : 0);
            }
        }
    }

    /** A row of code whose branches only just reach, so that a veneer makes others necessary. */
    private void buildRow() {
        objects = 1;
        x.object();
        int sections = 2 + chance.nextInt(12);
        for (int i = 0; i < sections; i++) {
            tellSection(0, 0, 6, 1, i);
            x.mark(i, 0, 1);
            model.sections.get(i)[4] = 1;
            tellSymbol(0, i, i, 0, 0);
        }
        tellSymbol(0, 63, -1, 0, 2);
        for (int i = chance.nextInt(3 * sections); i >= 0; i--) {
            int from = chance.nextInt(sections);
            int to = chance.nextInt(sections);
            int offset = 2 * chance.nextInt(3);
            int edge = chance.nextInt(2) == 0 ? 32767 : -32768;
            int slack = chance.nextInt(50) - 5;
            int addend = edge - 6 * (to - from) + offset - (edge > 0 ? slack : -slack);
            tellRelocation(from, offset, 3, chance.nextInt(9) == 0 ? sections : to, addend);
        }
    }

    private void tellSection(int object, int kind, int size, int align, int seed) {
        due.is(at("section(..)"), x.section(object, kind, size, align, seed), model.sections.size());
        model.section(object, kind, size, align, seed);
        told = true;
    }

    private void tellSymbol(int object, int name, int section, int offset, int sort) {
        due.is(at("symbol(..)"), x.symbol(object, name, section, offset, sort), model.symbols.size());
        model.symbols.add(new int[] {object, name, section, offset, sort});
        told = true;
    }

    private void tellRelocation(int section, int offset, int type, int symbol, int addend) {
        int got = x.relocation(section, offset, type, symbol, addend);
        due.is(at("relocation(..)"), got, model.relocations.size());
        model.relocations.add(new int[] {section, offset, type, symbol, addend});
        told = true;
    }

    private void change() {
        told = false;
        switch (chance.nextInt(7)) {
            case 0 -> addSection(false);
            case 1 -> addSymbol();
            case 2 -> addRelocation(false);
            case 3 -> setMark(chance.nextInt(model.sections.size()), chance.nextInt(3));
            case 4 -> setBase();
            case 5 -> patch();
            default -> addRoot();
        }
        boolean image = !told && model.faultKind == 0;
        due.is(at("fault()"), x.fault(), told ? -1 : model.faultNumber);
        due.is(at("count(5)"), x.count(5), told ? 0 : model.rows.size());
        due.is(at("count(7)"), x.count(7), image ? model.times : 0);
        due.is(at("octet(0) == STATE"), x.octet(0) == SectionGarden.STATE ? 1 : 0, image ? 0 : 1);
    }

    private void addSection(boolean wide) {
        int object = chance.nextInt(objects);
        int kind = chance.nextInt(10) < 7 ? chance.nextInt(2) : 2 + chance.nextInt(2);
        int size = 4 * chance.nextInt(4) + (chance.nextInt(4) == 0 ? chance.nextInt(7) : 0);
        size = wide && chance.nextInt(5) == 0 ? 19000 + chance.nextInt(1000) : size;
        int align = chance.nextInt(3);
        int seed = chance.nextInt(2);
        int got = x.section(object, kind, size, align, seed);
        if (got != SectionGarden.ROOM) {
            told = true;
            due.is(at("section(..)"), got, model.sections.size());
            model.section(object, kind, size, align, seed);
            setMark(got, 0);
            setMark(got, 1);
            setMark(got, 2);
        }
    }

    private void setMark(int section, int what) {
        int v = what == 0 ? (chance.nextInt(6) == 0 ? 1 : 0) : -1;
        v = what == 1 && chance.nextInt(8) == 0 ? chance.nextInt(3) : v;
        v = what == 2 && chance.nextInt(4) == 0 ? chance.nextInt(4) : v;
        due.is(at("mark(..)"), x.mark(section, what, v), model.sections.get(section)[4 + what]);
        model.sections.get(section)[4 + what] = v;
        told = true;
    }

    private void addSymbol() {
        int section = chance.nextInt(model.sections.size());
        int object = model.sections.get(section)[0];
        int offset = chance.nextInt(3) == 0 ? chance.nextInt(model.sections.get(section)[2] + 1) : 0;
        int sort = chance.nextInt(3);
        int name = sort == 1 && chance.nextInt(12) != 0 ? model.symbols.size() : chance.nextInt(12);
        if (chance.nextInt(3) == 0) {
            section = -1 - chance.nextInt(4) * chance.nextInt(2) - chance.nextInt(2) * 8;
            offset = 0;
            sort = section == -1 ? 1 + chance.nextInt(2) : 0;
            section = section == -9 ? -10 : section;
        }
        tellSymbol(object, name, section, offset, sort);
    }

    private void addRelocation(boolean wide) {
        int symbol = chance.nextInt(model.symbols.size());
        int section = chance.nextInt(model.sections.size());
        int type = chance.nextInt(3) == 0 ? chance.nextInt(5) : 3;
        int[] home = model.sections.get(section);
        int room = home[2] - PlainModel.WIDTH[type];
        int[] to = model.symbols.get(symbol);
        if (to[0] != home[0] || home[1] == 3 || room < 0 || (type == 3 && home[1] != 0)) {
            return;
        }
        int offset = room > 3 && chance.nextInt(3) != 0 ? 4 * chance.nextInt(room / 4 + 1) : chance.nextInt(room + 1);
        int addend = chance.nextInt(4) == 0 ? chance.nextInt(9) - 4 : 0;
        boolean far = wide && (type == 3 || type == 0) && chance.nextInt(2) == 0;
        addend = far ? 32600 + chance.nextInt(200) : addend;
        tellRelocation(section, offset, type, symbol, addend);
    }

    private void addRoot() {
        int[] symbol = model.symbols.get(chance.nextInt(model.symbols.size()));
        for (int i = 0; i < 9 && (symbol[2] < 0 || symbol[4] == 0); i++) {
            symbol = model.symbols.get(chance.nextInt(model.symbols.size()));
        }
        int name = symbol[1];
        int got = x.root(name);
        if (got != SectionGarden.ROOM) {
            told = true;
            model.roots.add(name);
            due.is(at("root(..)"), got, model.roots.size());
        }
    }

    private void setBase() {
        int kind = chance.nextInt(4);
        int place = chance.nextInt(5) == 0 ? -1 : chance.nextInt(3) == 0 ? 4090 + chance.nextInt(60) : chance.nextInt(90000);
        due.is(at("base(..)"), x.base(kind, place), model.bases[kind]);
        model.bases[kind] = place;
        told = true;
    }

    private void patch() {
        int section = chance.nextInt(model.sections.size());
        int[] home = model.sections.get(section);
        if (home[1] != 3 && home[2] > 0) {
            int i = chance.nextInt(home[2]);
            int v = chance.nextInt();
            due.is(at("patch(..)"), x.patch(section, i, v), model.bytes.get(section)[i] & 255);
            model.bytes.get(section)[i] = (byte) v;
            told = true;
        } else {
            addRoot();
        }
    }

    private void compareLink(boolean fold) {
        model.link(fold);
        due.is(at("link(" + fold + ")"), x.link(fold), model.faultKind);
        due.is(at("fault()"), x.fault(), model.faultNumber);
        due.is(at("count(5)"), x.count(5), model.rows.size());
        due.is(at("count(6)"), x.count(6), model.folded.size());
        for (int s = 0; s < model.sections.size(); s++) {
            compareKept(s);
        }
        if (model.faultKind == 0) {
            compareImage();
        } else {
            due.is(at("octet(4096)"), x.octet(4096), -103);
        }
    }

    private void compareKept(int s) {
        boolean known = model.faultKind != 1;
        boolean kept = known && model.rows.contains(s);
        due.is(at("kept(" + s + ", 0)"), x.kept(s, 0), known ? (kept ? 1 : 0) : -103);
        due.is(at("kept(" + s + ", 1)"), x.kept(s, 1), known ? (kept ? model.by.get(s) : -1) : -103);
        due.is(at("kept(" + s + ", 2)"), x.kept(s, 2), known ? model.folded.getOrDefault(s, -1) : -103);
        due.is(at("kept(" + s + ", 3)"), x.kept(s, 3), known ? (model.lost.contains(s) ? 1 : 0) : -103);
        due.is(at("kept(" + s + ", 4)"), x.kept(s, 4), known ? model.rows.indexOf(s) : -103);
        if (model.faultKind == 0 && kept) {
            due.is(at("place(" + s + ")"), x.place(s), model.places.get(s));
            due.is(at("veneers(" + s + ")"), x.veneers(s), model.veneerCount(s));
        } else {
            due.isIllegalState(at("place(" + s + ")"), () -> x.place(s));
        }
    }

    private void compareImage() {
        due.is(at("count(7)"), x.count(7), model.times);
        due.is(at("count(8)"), x.count(8), model.veneers.size());
        for (int i = 0; i < model.symbols.size(); i++) {
            int symbol = i;
            int[] target = model.target(i);
            if (target[0] >= 0 && !model.rows.contains(target[0])) {
                due.isIllegalState(at("value(" + i + ")"), () -> x.value(symbol));
            } else {
                due.is(at("value(" + i + ")"), x.value(i), model.value(target));
            }
        }
        for (int kind = 0; kind < 4; kind++) {
            due.is(at("range(" + kind + ", false)"), x.range(kind, false), model.ranges[kind][0]);
            due.is(at("range(" + kind + ", true)"), x.range(kind, true), model.ranges[kind][1]);
            for (long place = model.ranges[kind][0] - 3; place < model.ranges[kind][1] + 3; place++) {
                due.is(at("octet(" + place + ")"), x.octet(place), model.image.getOrDefault(place, -1));
            }
        }
    }

    private String at(String call) {
        return "garden " + garden + ", " + call;
    }
}

/** A garden and the plain model beside it: what is told is told to both, and what they answer is compared. */
final class Pair {
    final SectionGarden x = new SectionGarden();
    final PlainModel model = new PlainModel();
    private final Due due;
    private final String title;
    private boolean told;

    Pair(Due due, String title) {
        this.due = due;
        this.title = title;
    }

    void is(String call, long got, long want) {
        due.is(title + ", " + call, got, want);
    }

    void tellObjects(int objects) {
        for (int i = 0; i < objects; i++) {
            is("object()", x.object(), i);
        }
        told = true;
    }

    void tellSection(int object, int kind, int size, int align, int seed) {
        is("section(..)", x.section(object, kind, size, align, seed), model.sections.size());
        model.section(object, kind, size, align, seed);
        told = true;
    }

    void tellPatch(int section, int i, int v) {
        is("patch(..)", x.patch(section, i, v), model.bytes.get(section)[i] & 255);
        model.bytes.get(section)[i] = (byte) v;
        told = true;
    }

    void tellMark(int section, int what, int v) {
        is("mark(..)", x.mark(section, what, v), model.sections.get(section)[4 + what]);
        model.sections.get(section)[4 + what] = v;
        told = true;
    }

    void tellSymbol(int object, int name, int section, int offset, int sort) {
        is("symbol(..)", x.symbol(object, name, section, offset, sort), model.symbols.size());
        model.symbols.add(new int[] {object, name, section, offset, sort});
        told = true;
    }

    void tellRelocation(int section, int offset, int type, int symbol, int addend) {
        is("relocation(..)", x.relocation(section, offset, type, symbol, addend), model.relocations.size());
        model.relocations.add(new int[] {section, offset, type, symbol, addend});
        told = true;
    }

    void tellRoot(int name) {
        model.roots.add(name);
        is("root(..)", x.root(name), model.roots.size());
        told = true;
    }

    void tellBase(int kind, int place) {
        is("base(..)", x.base(kind, place), model.bases[kind]);
        model.bases[kind] = place;
        told = true;
    }

    /** What is left of the latest link, whether something was told since or not. */
    void compareWhatIsLeft() {
        boolean image = !told && model.faultKind == 0;
        is("fault()", x.fault(), told ? -1 : model.faultNumber);
        is("count(5)", x.count(5), told ? 0 : model.rows.size());
        is("count(7)", x.count(7), image ? model.times : 0);
        is("octet(0) == STATE", x.octet(0) == SectionGarden.STATE ? 1 : 0, image ? 0 : 1);
    }

    void compareLink(boolean fold) {
        told = false;
        model.link(fold);
        is("link(" + fold + ")", x.link(fold), model.faultKind);
        is("fault()", x.fault(), model.faultNumber);
        is("count(5)", x.count(5), model.rows.size());
        is("count(6)", x.count(6), model.folded.size());
        for (int s = 0; s < model.sections.size(); s++) {
            compareKept(s);
        }
        if (model.faultKind == 0) {
            compareImage();
        } else {
            is("octet(4096)", x.octet(4096), SectionGarden.STATE);
        }
    }

    private void compareKept(int s) {
        boolean known = model.faultKind != 1;
        boolean kept = known && model.rows.contains(s);
        is("kept(" + s + ", 0)", x.kept(s, 0), known ? (kept ? 1 : 0) : -103);
        is("kept(" + s + ", 1)", x.kept(s, 1), known ? (kept ? model.by.get(s) : -1) : -103);
        is("kept(" + s + ", 2)", x.kept(s, 2), known ? model.folded.getOrDefault(s, -1) : -103);
        is("kept(" + s + ", 3)", x.kept(s, 3), known ? (model.lost.contains(s) ? 1 : 0) : -103);
        is("kept(" + s + ", 4)", x.kept(s, 4), known ? model.rows.indexOf(s) : -103);
        if (model.faultKind == 0 && kept) {
            is("place(" + s + ")", x.place(s), model.places.get(s));
            is("veneers(" + s + ")", x.veneers(s), model.veneerCount(s));
        } else {
            due.isIllegalState(title + ", place(" + s + ")", () -> x.place(s));
        }
    }

    private void compareImage() {
        is("count(7)", x.count(7), model.times);
        is("count(8)", x.count(8), model.veneers.size());
        for (int i = 0; i < model.symbols.size(); i++) {
            int symbol = i;
            int[] target = model.target(i);
            if (target[0] >= 0 && !model.rows.contains(target[0])) {
                due.isIllegalState(title + ", value(" + i + ")", () -> x.value(symbol));
            } else {
                is("value(" + i + ")", x.value(i), model.value(target));
            }
        }
        for (int kind = 0; kind < 4; kind++) {
            is("range(" + kind + ", false)", x.range(kind, false), model.ranges[kind][0]);
            is("range(" + kind + ", true)", x.range(kind, true), model.ranges[kind][1]);
            for (long place = model.ranges[kind][0] - 3; place < model.ranges[kind][1] + 3; place++) {
                int got = x.octet(place);
                if (got != model.image.getOrDefault(place, -1)) {
                    is("octet(" + place + ")", got, model.image.getOrDefault(place, -1));
                }
            }
        }
    }
}

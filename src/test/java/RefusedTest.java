import java.util.ArrayList;
import java.util.List;

/** A refused call answers its refusal, and nothing has changed by it, whatever stood before it. */
final class RefusedTest {
    private static final int NONE = SectionGarden.NONE;
    private static final int UNKNOWN = SectionGarden.UNKNOWN;
    private static final int OUTSIDE = SectionGarden.OUTSIDE;
    private static final int ROOM = SectionGarden.ROOM;
    private static final int LEAST = Integer.MIN_VALUE;
    private static final int MOST = Integer.MAX_VALUE;
    private static final int BRANCH = 3;

    private static final Due due = new Due("refused");

    /** Makes a garden, always the same one. */
    interface Maker {
        SectionGarden make();
    }

    /** A call that is refused. */
    interface Asked {
        int ask(SectionGarden x);
    }

    private record Refusal(String call, int answer, Asked asked) {
    }

    public static void main(String[] args) {
        List<Refusal> refusals = new ArrayList<>();
        addSections(refusals);
        addPatchesAndMarks(refusals);
        addSymbols(refusals);
        addRelocations(refusals);
        addRootsAndBases(refusals);
        for (int state = 0; state < STATES.length; state++) {
            int chosen = state;
            for (Refusal refusal : refusals) {
                dueRefused(STATES[state], () -> inState(chosen), refusal);
            }
        }
        withoutRoom();
        askingChangesNothing();
        due.end();
    }

    private static void dueRefused(String state, Maker maker, Refusal refusal) {
        SectionGarden asked = maker.make();
        SectionGarden left = maker.make();
        String call = state + ": " + refusal.call;
        due.is(call, refusal.asked.ask(asked), refusal.answer);
        due.is(call + " once more", refusal.asked.ask(asked), refusal.answer);
        due.is(call + " changed no answer", Snapshot.of(asked).equals(Snapshot.of(left)) ? 1 : 0, 1);
        String told = Snapshot.ofWhatWasTold(left);
        due.is(call + " told nothing", Snapshot.ofWhatWasTold(asked).equals(told) ? 1 : 0, 1);
    }

    /** Two objects: code with KEEP, zeros; data of a set, constants of a group; four symbols, two relocations. */
    private static SectionGarden plain() {
        SectionGarden x = new SectionGarden();
        x.object();
        x.object();
        x.section(0, 0, 8, 0, 5);
        x.section(0, 3, 4, 0, 0);
        x.section(1, 2, 4, 0, 9);
        x.section(1, 1, 4, 0, 9);
        x.mark(0, 0, 1);
        x.mark(2, 1, 3);
        x.mark(3, 2, 2);
        x.patch(0, 7, 200);
        x.symbol(0, 1, 0, 0, 1);
        x.symbol(1, 2, 2, 0, 0);
        x.symbol(1, 3, 3, 4, 1);
        x.symbol(0, 3, NONE, 0, 1);
        x.relocation(0, 0, BRANCH, 3, 0);
        x.relocation(0, 2, 0, 0, 0);
        x.root(1);
        x.base(2, 9000);
        return x;
    }

    private static final String[] STATES = {
        "told", "linked", "fault 1", "fault 2", "fault 3", "fault 4", "fault 5", "fault 6", "told since a link"};

    private static SectionGarden inState(int state) {
        SectionGarden x = plain();
        switch (state) {
            case 2 -> x.symbol(1, 1, 2, 0, 1);
            case 3 -> x.root(60);
            case 4 -> x.relocation(0, 4, 0, x.symbol(0, 50, NONE, 0, 1), 0);
            case 5 -> makeFault4(x);
            case 6 -> makeFault5(x);
            case 7 -> x.relocation(0, 6, 4, 0, 5000);
            default -> { }
        }
        int kind = state == 0 || state == 8 ? 0 : state - 1;
        if (state != 0) {
            due.is(STATES[state] + ": link(true)", x.link(true), kind);
        }
        if (state == 8) {
            x.mark(1, 0, 1);
        }
        return x;
    }

    private static void makeFault4(SectionGarden x) {
        x.mark(1, 2, 2);
        x.symbol(0, 3, 0, 0, 1);
        x.mark(2, 0, 1);
        x.relocation(2, 0, 0, x.symbol(1, 4, 3, 0, 0), 0);
    }

    private static void makeFault5(SectionGarden x) {
        x.mark(2, 0, 1);
        x.base(2, 4096);
    }

    private static void addSections(List<Refusal> all) {
        for (int object : new int[] {LEAST, -1, 2, 12, MOST}) {
            all.add(new Refusal("section of object " + object, UNKNOWN, x -> x.section(object, 0, 4, 0, 0)));
            all.add(new Refusal("section, all wrong " + object, UNKNOWN, x -> x.section(object, 4, 20001, 9, 0)));
        }
        for (int kind : new int[] {LEAST, -1, 4, MOST}) {
            all.add(new Refusal("section of kind " + kind, OUTSIDE, x -> x.section(0, kind, 4, 0, 0)));
        }
        for (int size : new int[] {LEAST, -1, 20001, 60001, MOST}) {
            all.add(new Refusal("section of size " + size, OUTSIDE, x -> x.section(0, 0, size, 0, 0)));
        }
        for (int align : new int[] {LEAST, -1, 9, 32, MOST}) {
            all.add(new Refusal("section of align " + align, OUTSIDE, x -> x.section(0, 0, 4, align, 0)));
        }
    }

    private static void addPatchesAndMarks(List<Refusal> all) {
        for (int section : new int[] {LEAST, -1, 4, 60, MOST}) {
            all.add(new Refusal("patch of section " + section, UNKNOWN, x -> x.patch(section, 0, 1)));
            all.add(new Refusal("mark of section " + section, UNKNOWN, x -> x.mark(section, 0, 1)));
            all.add(new Refusal("mark, all wrong " + section, UNKNOWN, x -> x.mark(section, 3, 99)));
        }
        all.add(new Refusal("patch of zeros", UNKNOWN, x -> x.patch(1, 0, 1)));
        all.add(new Refusal("patch of zeros, i wrong", UNKNOWN, x -> x.patch(1, 4, 1)));
        for (int i : new int[] {LEAST, -1, 8, MOST}) {
            all.add(new Refusal("patch of byte " + i, OUTSIDE, x -> x.patch(0, i, 1)));
        }
        for (int what : new int[] {LEAST, -1, 3, MOST}) {
            all.add(new Refusal("mark, what " + what, OUTSIDE, x -> x.mark(0, what, 0)));
        }
        for (int v : new int[] {LEAST, -2, 16, MOST}) {
            for (int what = 0; what < 3; what++) {
                int marked = what;
                all.add(new Refusal("mark, what " + what + ", v " + v, OUTSIDE, x -> x.mark(0, marked, v)));
            }
        }
        all.add(new Refusal("KEEP NONE", OUTSIDE, x -> x.mark(0, 0, NONE)));
        all.add(new Refusal("KEEP 2", OUTSIDE, x -> x.mark(0, 0, 2)));
        all.add(new Refusal("SET 8", OUTSIDE, x -> x.mark(2, 1, 8)));
    }

    private static void addSymbols(List<Refusal> all) {
        for (int object : new int[] {LEAST, -1, 2, 12, MOST}) {
            all.add(new Refusal("symbol of object " + object, UNKNOWN, x -> x.symbol(object, 9, NONE, 0, 1)));
            all.add(new Refusal("symbol, all wrong " + object, UNKNOWN, x -> x.symbol(object, 64, -18, -1, 3)));
        }
        for (int section : new int[] {LEAST, -18, 2, 4, 60, MOST}) {
            all.add(new Refusal("symbol in section " + section, UNKNOWN, x -> x.symbol(0, 9, section, 0, 0)));
            all.add(new Refusal("symbol, the rest wrong " + section, UNKNOWN, x -> x.symbol(0, 64, section, -1, 3)));
        }
        for (int name : new int[] {LEAST, -1, 64, MOST}) {
            for (int section : new int[] {0, NONE}) {
                all.add(new Refusal("symbol " + name + " in " + section, OUTSIDE, x -> x.symbol(0, name, section, 0, 1)));
            }
        }
        for (int offset : new int[] {LEAST, -1, 9, MOST}) {
            all.add(new Refusal("symbol at " + offset, OUTSIDE, x -> x.symbol(0, 9, 0, offset, 1)));
            all.add(new Refusal("UNDEFINED at " + offset, OUTSIDE, x -> x.symbol(0, 9, NONE, offset, 1)));
            all.add(new Refusal("START at " + offset, OUTSIDE, x -> x.symbol(0, 9, -2, offset, 0)));
            all.add(new Refusal("STOP at " + offset, OUTSIDE, x -> x.symbol(0, 9, -17, offset, 0)));
        }
        for (int sort : new int[] {LEAST, -1, 3, MOST}) {
            for (int section : new int[] {0, NONE, -9, -10}) {
                all.add(new Refusal("sort " + sort + " in " + section, OUTSIDE, x -> x.symbol(0, 9, section, 0, sort)));
            }
        }
        all.add(new Refusal("UNDEFINED LOCAL", OUTSIDE, x -> x.symbol(0, 9, NONE, 0, 0)));
        for (int sort = 1; sort <= 2; sort++) {
            int given = sort;
            all.add(new Refusal("START of sort " + sort, OUTSIDE, x -> x.symbol(0, 9, -2, 0, given)));
            all.add(new Refusal("STOP of sort " + sort, OUTSIDE, x -> x.symbol(0, 9, -10, 0, given)));
        }
    }

    private static void addRelocations(List<Refusal> all) {
        for (int section : new int[] {LEAST, -1, 1, 60, MOST}) {
            all.add(new Refusal("relocation of " + section, UNKNOWN, x -> x.relocation(section, 0, 4, 0, 0)));
            all.add(new Refusal("relocation, all wrong " + section, UNKNOWN, x -> x.relocation(section, -1, 5, -1, 0)));
        }
        for (int symbol : new int[] {LEAST, -1, 1, 2, 120, MOST}) {
            all.add(new Refusal("relocation by " + symbol, UNKNOWN, x -> x.relocation(0, 0, 0, symbol, 0)));
            all.add(new Refusal("relocation, rest wrong " + symbol, UNKNOWN, x -> x.relocation(0, 9, 5, symbol, 0)));
        }
        for (int type : new int[] {LEAST, -1, 5, MOST}) {
            all.add(new Refusal("type " + type, OUTSIDE, x -> x.relocation(0, 0, type, 0, 0)));
        }
        for (int type = 0; type < 5; type++) {
            int given = type;
            for (int offset : new int[] {LEAST, -1, 9 - PlainModel.WIDTH[type], 8, MOST}) {
                String call = "type " + type + " at " + offset;
                all.add(new Refusal(call, OUTSIDE, x -> x.relocation(0, offset, given, 0, 0)));
            }
        }
        all.add(new Refusal("BRANCH of data", OUTSIDE, x -> x.relocation(2, 0, BRANCH, 1, 0)));
        all.add(new Refusal("BRANCH of constants", OUTSIDE, x -> x.relocation(3, 0, BRANCH, 1, 0)));
    }

    private static void addRootsAndBases(List<Refusal> all) {
        for (int name : new int[] {LEAST, -1, 64, MOST}) {
            all.add(new Refusal("root " + name, OUTSIDE, x -> x.root(name)));
        }
        for (int kind : new int[] {LEAST, -1, 4, MOST}) {
            all.add(new Refusal("base of kind " + kind, OUTSIDE, x -> x.base(kind, 5000)));
            all.add(new Refusal("no base of kind " + kind, OUTSIDE, x -> x.base(kind, NONE)));
        }
        for (int place : new int[] {LEAST, -2, 2000000001, MOST}) {
            all.add(new Refusal("base at " + place, OUTSIDE, x -> x.base(2, place)));
        }
    }

    private static void withoutRoom() {
        dueRefused("12 objects", () -> linked(12, 0, 0, 0, 0), new Refusal("object", ROOM, x -> x.object()));
        Refusal empty = new Refusal("an empty section", ROOM, x -> x.section(0, 3, 0, 0, 0));
        dueRefused("60 sections", () -> linked(1, 60, 0, 0, 0), empty);
        Refusal wrong = new Refusal("a wrong section", OUTSIDE, x -> x.section(0, 4, 0, 0, 0));
        dueRefused("60 sections", () -> linked(1, 60, 0, 0, 0), wrong);
        for (int size : new int[] {2, 19999, 20000}) {
            Refusal large = new Refusal("size " + size, ROOM, x -> x.section(0, 3, size, 0, 0));
            dueRefused("59999 bytes", () -> with59999Bytes(), large);
        }
        Refusal symbol = new Refusal("symbol", ROOM, x -> x.symbol(0, 1, 0, 0, 0));
        dueRefused("120 symbols", () -> linked(1, 1, 120, 0, 0), symbol);
        Refusal set = new Refusal("symbol of a set", ROOM, x -> x.symbol(0, 1, -2, 0, 0));
        dueRefused("120 symbols", () -> linked(1, 1, 120, 0, 0), set);
        Refusal relocation = new Refusal("relocation", ROOM, x -> x.relocation(0, 0, 0, 0, 0));
        dueRefused("200 relocations", () -> linked(1, 1, 1, 200, 0), relocation);
        dueRefused("8 roots", () -> linked(1, 1, 1, 0, 8), new Refusal("root", ROOM, x -> x.root(0)));
        dueRefused("8 roots", () -> linked(1, 1, 1, 0, 8), new Refusal("root 64", OUTSIDE, x -> x.root(64)));
    }

    private static SectionGarden linked(int objects, int sections, int symbols, int relocations, int roots) {
        SectionGarden x = new SectionGarden();
        for (int i = 0; i < objects; i++) {
            x.object();
        }
        for (int i = 0; i < sections; i++) {
            x.section(0, 2, 4, 0, i);
            x.mark(i, 0, i % 2);
        }
        for (int i = 0; i < symbols; i++) {
            x.symbol(0, i % 64, 0, i % 4, i < 64 ? 1 : 0);
        }
        for (int i = 0; i < relocations; i++) {
            x.relocation(0, i % 4, 4, 0, i - 4096);
        }
        for (int i = 0; i < roots; i++) {
            x.root(0);
        }
        due.is("full: link(true)", x.link(true), 0);
        return x;
    }

    private static SectionGarden with59999Bytes() {
        SectionGarden x = linked(1, 0, 0, 0, 0);
        x.section(0, 3, 20000, 0, 0);
        x.section(0, 2, 20000, 0, 0);
        x.section(0, 1, 19999, 0, 0);
        x.mark(2, 0, 1);
        due.is("59999 bytes: link(true)", x.link(true), 0);
        return x;
    }

    /** Asking, even for what is not there, leaves all as it is: the first text and the second are the same. */
    private static void askingChangesNothing() {
        for (int state = 0; state < STATES.length; state++) {
            SectionGarden x = inState(state);
            String first = Snapshot.of(x);
            due.is(STATES[state] + ": asking changes nothing", first.equals(Snapshot.of(x)) ? 1 : 0, 1);
        }
    }
}

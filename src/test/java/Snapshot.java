/** What a garden answers, as one text: where two texts are the same, nothing that can be seen has changed. */
final class Snapshot {
    private static final int MOST_OCTETS = 400;

    private final SectionGarden x;
    private final StringBuilder text = new StringBuilder();

    private Snapshot(SectionGarden x) {
        this.x = x;
    }

    /** The answers of all calls that only ask. */
    static String of(SectionGarden x) {
        Snapshot snapshot = new Snapshot(x);
        snapshot.askCounts();
        snapshot.askSections();
        snapshot.askImage();
        return snapshot.text.toString();
    }

    /** What was told, found by telling it anew and by linking: the garden is another one behind it. */
    static String ofWhatWasTold(SectionGarden x) {
        Snapshot snapshot = new Snapshot(x);
        for (int fold = 0; fold < 2; fold++) {
            snapshot.add("link", x.link(fold == 1));
            snapshot.text.append(of(x));
        }
        for (int s = 0; s < x.count(1); s++) {
            for (int what = 0; what < 3; what++) {
                snapshot.add("mark", x.mark(s, what, 0));
            }
            for (int i = 0; i < 40; i++) {
                snapshot.add("patch", x.patch(s, i, 0));
            }
        }
        for (int kind = 0; kind < 4; kind++) {
            snapshot.add("base", x.base(kind, SectionGarden.NONE));
        }
        snapshot.add("object", x.object());
        snapshot.add("root", x.root(0));
        return snapshot.text.toString();
    }

    private void add(String call, long answer) {
        text.append(call).append(' ').append(answer).append('\n');
    }

    private void addCall(String call, Due.Call asked) {
        int thrown = Due.thrownBy(asked);
        if (thrown == 0) {
            add(call, asked.ask());
        } else {
            text.append(call).append(" throws ").append(thrown).append('\n');
        }
    }

    private void askCounts() {
        for (int what = -1; what <= 9; what++) {
            add("count", x.count(what));
        }
        add("fault", x.fault());
    }

    private void askSections() {
        for (int s = -1; s <= x.count(1); s++) {
            int section = s;
            for (int what = -1; what <= 5; what++) {
                add("kept", x.kept(s, what));
            }
            addCall("place", () -> x.place(section));
            add("veneers", x.veneers(s));
        }
        for (int s = -1; s <= x.count(2); s++) {
            int symbol = s;
            addCall("value", () -> x.value(symbol));
        }
    }

    private void askImage() {
        for (int k = -1; k <= 4; k++) {
            int kind = k;
            addCall("range begins", () -> x.range(kind, false));
            addCall("range ends", () -> x.range(kind, true));
        }
        add("octet", x.octet(4096));
        for (int kind = 0; kind < 4 && x.octet(4096) != SectionGarden.STATE; kind++) {
            long begin = x.range(kind, false);
            for (long place = begin - 1; place <= x.range(kind, true) && place < begin + MOST_OCTETS; place++) {
                add("octet", x.octet(place));
            }
        }
    }
}

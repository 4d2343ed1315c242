/** Gardens that many tests begin with, and what they ask of them. */
final class Gardens {
    private Gardens() {
    }

    static SectionGarden withObjects(int objects) {
        SectionGarden x = new SectionGarden();
        for (int i = 0; i < objects; i++) {
            x.object();
        }
        return x;
    }

    /** One object whose sections, told as kind, size, kind, size .., have KEEP, ALIGN 0 and seed 0. */
    static SectionGarden keeping(int... kindsAndSizes) {
        SectionGarden x = withObjects(1);
        for (int i = 0; i + 1 < kindsAndSizes.length; i += 2) {
            keep(x, kindsAndSizes[i], kindsAndSizes[i + 1], 0);
        }
        return x;
    }

    static int keep(SectionGarden x, int kind, int size, int align) {
        int section = x.section(0, kind, size, align, 0);
        x.mark(section, 0, 1);
        return section;
    }

    /** Section 0 keeps and branches to all others, which are code with a LOCAL symbol each (number: section - 1). */
    static SectionGarden withTwins(int twins) {
        SectionGarden x = keeping(0, 4 * twins);
        for (int i = 1; i <= twins; i++) {
            x.section(0, 0, 8, 2, 5);
            x.symbol(0, i, i, 0, 0);
            x.relocation(0, 4 * (i - 1), 3, i - 1, 0);
        }
        return x;
    }

    /** The number that some bytes of the image tell, the lowest byte first. */
    static long numberAt(SectionGarden x, long place, int width) {
        long number = 0;
        for (int i = width - 1; i >= 0; i--) {
            number = 256 * number + x.octet(place + i);
        }
        return number;
    }
}

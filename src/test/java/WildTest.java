import java.util.Random;

/** Calls with any arguments, by chance but always the same ones: nothing but the document's exceptions is thrown. */
final class WildTest {
    private static final int[] ODD = {
        Integer.MIN_VALUE, -2000000000, -103, -18, -17, -10, -9, -2, -1, 0, 1, 2, 3, 4, 5, 7, 8, 9, 11, 12, 15, 16, 59,
        60, 63, 64, 119, 120, 199, 200, 4096, 19999, 20000, 20001, 32768, 65536, 2000000000, 2000000001,
        Integer.MAX_VALUE};

    private final Random chance;
    private final SectionGarden x = new SectionGarden();

    private WildTest(int seed) {
        chance = new Random(seed);
    }

    public static void main(String[] args) {
        Due due = new Due("wild");
        for (int seed = 0; seed < 300; seed++) {
            WildTest test = new WildTest(seed);
            test.x.object();
            for (int i = 0; i < 3000; i++) {
                test.callOne(due, seed);
            }
        }
        due.end();
    }

    private int any() {
        switch (chance.nextInt(8)) {
            case 0: return ODD[chance.nextInt(ODD.length)];
            case 1: return chance.nextInt();
            case 2: return chance.nextInt(64);
            default: return chance.nextInt(5) - (chance.nextInt(10) == 0 ? 3 : 0);
        }
    }

    private void callOne(Due due, int seed) {
        int call = chance.nextInt(20);
        try {
            make(call);
        } catch (RuntimeException e) {
            boolean thrower = call == 11 || call == 12 || call == 14;
            boolean known = e.getClass() == IndexOutOfBoundsException.class || e.getClass() == IllegalStateException.class;
            boolean own = e.getStackTrace()[0].getClassName().equals("SectionGarden");
            due.is("seed " + seed + ", call " + call + " throws " + e, thrower && known && own ? 1 : 0, 1);
        }
    }

    private long make(int call) {
        switch (call) {
            case 0: return x.object();
            case 1: case 17: return x.section(any(), any(), any(), any(), any());
            case 2: return x.patch(any(), any(), any());
            case 3: return x.mark(any(), any(), any());
            case 4: case 18: return x.symbol(any(), any(), any(), any(), any());
            case 5: case 19: return x.relocation(any(), any(), any(), any(), any());
            case 6: return chance.nextInt(20) == 0 ? x.root(any()) : 0;
            case 7: return x.base(any(), any());
            case 8: return x.link(chance.nextBoolean());
            case 9: return x.fault();
            case 10: return x.kept(any(), any());
            case 11: return x.place(any());
            case 12: return x.value(any());
            case 13: return x.octet(chance.nextInt(3) == 0 ? chance.nextLong() : 4090 + chance.nextInt(500));
            case 14: return x.range(any(), chance.nextBoolean());
            case 15: return x.veneers(any());
            default: return x.count(any());
        }
    }
}

/** The example of README.md answers what README.md says. */
final class ReadmeTest {
    public static void main(String[] args) {
        Due due = new Due("readme");
        SectionGarden garden = new SectionGarden();
        int object = garden.object();
        int code = garden.section(object, 0, 8, 2, 0);
        int data = garden.section(object, 2, 4, 2, 0);
        garden.symbol(object, 1, code, 0, 1);
        int here = garden.symbol(object, 2, data, 0, 0);
        garden.relocation(code, 4, 0, here, 0);
        garden.root(1);
        due.is("link(true)", garden.link(true), 0);
        due.is("place(data)", garden.place(data), 4104);
        due.is("octet(place(code) + 4)", garden.octet(garden.place(code) + 4), 8);
        due.end();
    }
}

import java.nio.file.Files;
import java.nio.file.Path;

/** The example of README.md: what it says its calls answer, and that it stands there as it does here. */
public final class ExampleTests {
    private static final Due DUE = new Due("ExampleTests");
    private static String page = "";

    private static void put(BothLists x, String text) {
        Put.text(x, text);
    }

    private static void is(String call, long got, long want) {
        DUE.is(call, got, want);
        boolean stands = page.lines().anyMatch(line -> line.strip().matches("\\Q" + call + ";\\E +// " + want + "\\b.*"));
        DUE.holds("README.md has " + call + " // " + want, stands);
    }

    private static void puts(BothLists x, String text) {
        put(x, text);
        DUE.holds("README.md puts " + text, page.contains("put(x, \"" + text + "\");"));
    }

    public static void main(String[] args) throws Exception {
        page = Files.readString(Path.of("README.md"));
        BothLists x = new BothLists();
        puts(x, "same c k; double;");
        is("x.spelling()", x.spelling(), 2);
        puts(x, "anna 10; carl 20; dora 30;");
        is("x.list(0)", x.list(0), 3);
        puts(x, "karl 5; emil 6;");
        is("x.list(1)", x.list(1), 2);
        puts(x, "anna; carl; emil;");
        is("x.known()", x.known(), 3);
        puts(x, "one makes a; one turns a; one sends a; two turns a; two sends a; "
                + "two makes b; two turns b; two mixes b; two sends b; one turns b; one meets a b;");
        is("x.way()", x.way(), 11);
        is("x.prime(59)", x.prime(59), 1);
        is("x.turning(0, 0, 3)", x.turning(0, 0, 3), 1);
        is("x.turning(1, 0, 5)", x.turning(1, 0, 5), 1);
        is("x.run()", x.run(), 11);
        is("x.out(0, 0)", x.out(0, 0), 1);
        is("x.out(0, 11)", x.out(0, 11), 1);
        is("x.saw(1, -1)", x.saw(1, -1), 4);
        is("x.cost(1)", x.cost(1), 32);
        is("x.agree(0, 0)", x.agree(0, 0), 1);
        is("x.surely(0, 1)", x.surely(0, 1), 1);
        is("x.near()", x.near(), 1);
        puts(x, "two makes ?;");
        is("x.way()", x.way(), -1);
        is("x.fault(0)", x.fault(0), 1);
        is("x.fault(1)", x.fault(1), 10);
        DUE.finish();
    }
}

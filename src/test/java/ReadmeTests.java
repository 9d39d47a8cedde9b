/** The example of README.md, with the answers that it tells. */
public final class ReadmeTests extends CaseHelp {
    public static void main(String[] args) {
        SortCases x = new SortCases();
        setsAndCorrects(x);
        worksAsText(x);
        CHECKS.end();
    }

    private static void setsAndCorrects(SortCases x) {
        is("swap(0, 1)", 2, () -> x.swap(0, 1));
        is("set(0)", 1, () -> x.set(0));
        is("set(2)", 2, () -> x.set(2));
        is("count(10)", 1, () -> x.count(10));
        lineIs("set", x, "b!c");
        CHECKS.same("rightShare()", 0.5, x.rightShare());
        is("keep()", 2, () -> x.keep());
        is("fix(0)", 0, () -> x.fix(0));
        piles("fix(0)", x, 0, "baaaaa");
    }

    private static void worksAsText(SortCases x) {
        spell(x, "set:ad;fix7;back");
        is("firstError()", 16, () -> x.firstError());
        is("work()", 1, () -> x.work());
        is("stopped(0)", 1, () -> x.stopped(0));
        is("stopped(1)", 7, () -> x.stopped(1));
        is("undo()", 4, () -> x.undo());
        is("back()", 1, () -> x.back());
        piles("back()", x, 0, "abaaaaa");
        is("restore()", 2, () -> x.restore());
        lineIs("restore()", x, "b!c");
    }
}

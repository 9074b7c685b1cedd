/** Promise 1, a new object: all as told. */
public final class NewObjectTest {
    public static void main(String[] args) {
        counts();
        exchanger();
        settings();
        adsorbersAndValves();
        meters();
        objectsAreApart();
        Due.end("NewObjectTest");
    }

    private static void counts() {
        ColdWorks x = new ColdWorks();
        long[] first = {0, 0, 0, 0, 4, 0, 0, 0, 0, 0};
        for (int i = 0; i < first.length; i++) {
            Due.is("new: count(" + i + ")", x.count(i), first[i]);
        }
        Due.is("new: trace()", x.trace(), 0);
    }

    private static void exchanger() {
        ColdWorks x = new ColdWorks();
        for (int cell = 0; cell < 4; cell++) {
            Due.is("new: side(0, " + cell + ")", x.side(0, cell), 300);
            Due.is("new: side(1, " + cell + ")", x.side(1, cell), 300);
        }
        Due.is("new: side(0, 4)", x.side(0, 4), -1);
        for (int i = 0; i < 4; i++) {
            Due.is("new: heat(" + i + ")", x.heat(i), 0);
        }
        firstPass();
    }

    /** The pass is 20 at first: of a difference of 300 in cell 0, 60 go over. */
    private static void firstPass() {
        ColdWorks x = new ColdWorks();
        x.set(2, 0);
        x.start();
        x.tick(2);
        Due.is("the first pass: side(0, 1)", x.side(0, 1), 60);
        Due.is("the first pass: heat(1)", x.heat(1), 300 + 240);
    }

    private static void settings() {
        ColdWorks x = new ColdWorks();
        Due.is("new: set(0, -9)", x.set(0, -9), -9);
        Due.is("new: set(1, 1)", x.set(1, 1), 0);
        Due.is("new: set(2, 1)", x.set(2, 1), 300);
        Due.is("new: set(3, 11)", x.set(3, 11), 500);
        Due.is("new: set(4, 6)", x.set(4, 6), 20);
        Due.is("new: set(5, 2)", x.set(5, 2), 6);
    }

    private static void adsorbersAndValves() {
        ColdWorks x = new ColdWorks();
        Due.is("new: adsorber(0, 0)", x.adsorber(0, 0), 1);
        Due.is("new: adsorber(1, 0)", x.adsorber(1, 0), 0);
        for (int a = 0; a < 2; a++) {
            Due.is("new: adsorber(" + a + ", 1)", x.adsorber(a, 1), 0);
            Due.is("new: adsorber(" + a + ", 2)", x.adsorber(a, 2), 0);
        }
        for (int v = 0; v < 3; v++) {
            Due.is("new: valve(" + v + ")", x.valve(v), 0);
        }
    }

    private static void meters() {
        ColdWorks x = new ColdWorks();
        for (int m = 0; m < 4; m++) {
            Due.is("new: meter(" + m + ")", x.meter(m), 0);
            Due.is("new: balance(" + m + ")", x.balance(m), 0);
            Due.is("new: lose(" + m + ", false)", x.lose(m, false), 0);
        }
    }

    private static void objectsAreApart() {
        ColdWorks used = Setups.tripped();
        used.order(3, 4);
        used.lose(0, true);
        used.cold(0, 0);
        counts();
        meters();
        Due.is("the used one: count(0)", used.count(0), 4);
    }
}

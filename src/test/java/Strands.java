/** Strands in the states that several tests begin with. */
final class Strands {
    private Strands() {
    }

    /** So many steps cast, and wanted lengths: low, high, low, high, .. */
    static CutLengths of(int steps, int... spans) {
        CutLengths x = new CutLengths();
        x.cast(steps);
        for (int i = 0; i + 1 < spans.length; i += 2) {
            x.want(spans[i], spans[i + 1]);
        }
        return x;
    }

    /** Something of everything is told, nothing is cut yet; some of it lies beyond the strand's end. */
    static CutLengths told() {
        CutLengths x = of(40, 7, 8, 4, 4);
        x.step(251, 333);
        x.trim(2, 3);
        x.bad(12, 14);
        x.bad(120, 122);
        x.bar(20, 22);
        x.bar(60, 60);
        return x;
    }

    /** The same, its first two parts cut. */
    static CutLengths begun() {
        CutLengths x = told();
        cut(x, 2);
        return x;
    }

    /** Cut up to its end. */
    static CutLengths cutUp() {
        CutLengths x = told();
        while (x.torch() < 40) {
            x.cut();
        }
        return x;
    }

    static CutLengths withSixWanted() {
        return of(40, 9, 9, 8, 8, 7, 7, 6, 6, 5, 5, 11, 11);
    }

    static CutLengths withTwentyBadParts() {
        CutLengths x = of(45, 1, 60);
        for (int i = 0; i < 20; i++) {
            x.bad(2 * i, 2 * i + 1);
        }
        return x;
    }

    static CutLengths withTwentyBars() {
        CutLengths x = of(45, 1, 60);
        for (int i = 1; i <= 20; i++) {
            x.bar(2 * i, 2 * i);
        }
        return x;
    }

    /** A hundred slabs of a step each, and so many steps ahead of the torch. */
    static CutLengths withHundredSlabs(int ahead) {
        CutLengths x = of(100 + ahead, 1, 1);
        cut(x, 100);
        return x;
    }

    static CutLengths threeHundredLong() {
        return of(300, 60, 60, 7, 7);
    }

    static void cut(CutLengths x, int times) {
        for (int i = 0; i < times; i++) {
            x.cut();
        }
    }
}

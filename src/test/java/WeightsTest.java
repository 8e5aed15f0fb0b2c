/** The weights of slabs: the largest, the least, and those that are rounded down. */
public final class WeightsTest {
    private static final Checks CHECKS = new Checks();

    public static void main(String[] args) {
        CHECKS.test("13 the largest", () -> weight(300, 65536, 100000, 1966080000L));
        CHECKS.test("13 the largest piece", WeightsTest::largestPiece);
        CHECKS.test("13 the largest of one step", () -> weight(1, 65536, 100000, 6553600L));
        CHECKS.test("13 the least", () -> weight(1, 1, 1, 0));
        CHECKS.test("13 just below a kilo", () -> weight(1, 1, 999, 0));
        CHECKS.test("13 just a kilo", () -> weight(1, 1, 1000, 1));
        CHECKS.test("13 just above a kilo", () -> weight(1, 1, 1001, 1));
        CHECKS.test("13 just below two kilos", () -> weight(1, 1, 1999, 1));
        CHECKS.test("13 just two kilos", () -> weight(1, 2, 1000, 2));
        CHECKS.test("13 rounded down from above a half", () -> weight(1, 37, 73, 2));
        CHECKS.test("13 rounded once, not step by step", () -> weight(300, 1, 999, 299));
        CHECKS.test("13 rounded behind the kilos, not ahead", () -> weight(1, 999, 100000, 99900));
        CHECKS.test("13 the largest that is rounded", () -> weight(299, 65535, 99999, 1959476905L));
        CHECKS.test("13 the greatest int over 1,000", () -> weight(1, 65536, 32767, 2147418));
        CHECKS.test("13 beyond the greatest int over 1,000", () -> weight(1, 65536, 32768, 2147483));
        CHECKS.test("13 twice beyond it", () -> weight(1, 65536, 65536, 4294967));
        CHECKS.test("13 a piece's as scrap's", WeightsTest::pieceAndScrap);
        CHECKS.test("13 a weight stays", WeightsTest::weightStays);
        CHECKS.end();
    }

    private static void weight(int steps, int millimetres, int kilos, long due) {
        CutLengths x = Strands.of(steps);
        x.step(millimetres, kilos);
        x.cut();
        CHECKS.due("weight(0)", due, () -> x.weight(0));
    }

    private static void largestPiece() {
        CutLengths x = Strands.of(300, 60, 60);
        x.step(65536, 100000);
        Strands.cut(x, 5);
        CHECKS.due("weight(0)", 393216000L, () -> x.weight(0));
        CHECKS.due("weight(4)", 393216000L, () -> x.weight(4));
    }

    private static void pieceAndScrap() {
        CutLengths x = Strands.of(6, 3, 3);
        x.trim(0, 3);
        x.step(111, 33);
        Strands.cut(x, 2);
        CHECKS.due("a piece: 10.989", 10, () -> x.weight(0));
        CHECKS.due("scrap: 10.989", 10, () -> x.weight(1));
    }

    private static void weightStays() {
        CutLengths x = Strands.begun();
        long weight = x.weight(1);
        CHECKS.refused("step(1, 1)", Checks.TURN, () -> x.step(1, 1));
        x.span(0, 1, 1);
        x.span(1, 1, 1);
        x.cut();
        CHECKS.due("weight(1)", weight, () -> x.weight(1));
    }
}

import java.util.ArrayList;
import java.util.List;

/**
 * A slow reading of the document, kept apart from the class: lists of what was told, every step and place
 * asked anew, every plan made anew.
 */
final class Model {
    static final class Part {
        final int wanted;
        final int begin;
        final int steps;

        Part(int wanted, int begin, int steps) {
            this.wanted = wanted;
            this.begin = begin;
            this.steps = steps;
        }

        int what(int what) {
            return new int[] {wanted, begin, steps}[what];
        }
    }

    private final List<int[]> spans = new ArrayList<>();
    private final List<int[]> badParts = new ArrayList<>();
    private final List<int[]> bars = new ArrayList<>();
    private final List<Part> slabs = new ArrayList<>();
    private int n = 0;
    private int torch = 0;
    private int front = 0;
    private int back = 0;
    private int millimetres = 100;
    private int kilos = 1000;

    long step(int newMillimetres, int newKilos) {
        turn(slabs.isEmpty());
        range(newMillimetres >= 1 && newMillimetres <= 65536 && newKilos >= 1 && newKilos <= 100000);
        millimetres = newMillimetres;
        kilos = newKilos;
        return 0;
    }

    long cast(int steps) {
        range(steps >= 0);
        meaning((long) n + steps <= 300);
        n += steps;
        return n;
    }

    long want(int low, int high) {
        turn(spans.size() < 6);
        range(1 <= low && low <= high && high <= 60);
        spans.add(new int[] {low, high});
        return spans.size() - 1;
    }

    long span(int wanted, int low, int high) {
        index(wanted >= 0 && wanted < spans.size());
        range(1 <= low && low <= high && high <= 60);
        spans.set(wanted, new int[] {low, high});
        return 0;
    }

    long trim(int newFront, int newBack) {
        range(newFront >= 0 && newFront <= 300 && newBack >= 0 && newBack <= 300);
        front = newFront;
        back = newBack;
        return 0;
    }

    long bad(int from, int to) {
        return stretch(badParts, from, to);
    }

    long bar(int from, int to) {
        return stretch(bars, from, to);
    }

    long loss() {
        int scrap = 0;
        for (Part part : plan()) {
            scrap += part.wanted == -1 ? part.steps : 0;
        }
        return scrap;
    }

    long part(int i, int what) {
        index(i >= 0 && what >= 0 && what <= 2);
        List<Part> plan = plan();
        return i < plan.size() ? plan.get(i).what(what) : -2;
    }

    long cut() {
        turn(torch != n);
        meaning(slabs.size() < 100);
        Part first = plan().get(0);
        slabs.add(first);
        torch += first.steps;
        return slabs.size() - 1;
    }

    long slab(int slab, int what) {
        index(slab >= 0 && slab < slabs.size() && what >= 0 && what <= 2);
        return slabs.get(slab).what(what);
    }

    long weight(int slab) {
        index(slab >= 0 && slab < slabs.size());
        return Math.floorDiv((long) slabs.get(slab).steps * millimetres * kilos, 1000L);
    }

    long count(int wanted) {
        index(wanted >= -1 && wanted < spans.size());
        return slabs.stream().filter(slab -> slab.wanted == wanted).count();
    }

    long torch() {
        return torch;
    }

    int wantedLengths() {
        return spans.size();
    }

    /** The whole plan as one text. */
    String planText() {
        return text(plan());
    }

    static String text(List<Part> parts) {
        StringBuilder text = new StringBuilder();
        for (Part part : parts) {
            text.append(part.wanted).append(" at ").append(part.begin).append(" of ").append(part.steps).append("; ");
        }
        return text.toString();
    }

    boolean isPiece(int wanted, int p, int q) {
        int[] span = spans.get(wanted);
        if (q - p < span[0] || q - p > span[1] || p != torch && isBarred(p) || q != n && isBarred(q)) {
            return false;
        }
        for (int step = p; step < q; step++) {
            if (step < front || step + 1 > n - back || isBad(step)) {
                return false;
            }
        }
        return true;
    }

    private List<Part> plan() {
        int[] least = leastFromEachPlace();
        List<Part> plan = new ArrayList<>();
        int scrapBegin = torch;
        int place = torch;
        while (place < n) {
            Part piece = preferredPiece(place, least);
            if (piece == null) {
                place++;
                continue;
            }
            addScrap(plan, scrapBegin, place);
            plan.add(piece);
            place += piece.steps;
            scrapBegin = place;
        }
        addScrap(plan, scrapBegin, n);
        return plan;
    }

    private static void addScrap(List<Part> plan, int begin, int end) {
        if (begin < end) {
            plan.add(new Part(-1, begin, end - begin));
        }
    }

    private int[] leastFromEachPlace() {
        int[] least = new int[n + 1];
        for (int p = n - 1; p >= torch; p--) {
            least[p] = least[p + 1] + 1;
            for (int wanted = 0; wanted < spans.size(); wanted++) {
                for (int q = p + 1; q <= Math.min(n, p + 60); q++) {
                    if (least[q] < least[p] && isPiece(wanted, p, q)) {
                        least[p] = least[q];
                    }
                }
            }
        }
        return least;
    }

    private Part preferredPiece(int p, int[] least) {
        for (int wanted = 0; wanted < spans.size(); wanted++) {
            for (int q = Math.min(n, p + 60); q > p; q--) {
                if (least[q] == least[p] && isPiece(wanted, p, q)) {
                    return new Part(wanted, p, q - p);
                }
            }
        }
        return null;
    }

    private boolean isBarred(int place) {
        return bars.stream().anyMatch(bar -> bar[0] <= place && place <= bar[1]);
    }

    private boolean isBad(int step) {
        return badParts.stream().anyMatch(bad -> bad[0] <= step && step < bad[1]);
    }

    private static long stretch(List<int[]> told, int from, int to) {
        turn(told.size() < 20);
        range(from >= 0 && from <= 300 && to >= 0 && to <= 300 && to >= from);
        told.add(new int[] {from, to});
        return told.size();
    }

    private static void index(boolean right) {
        if (!right) {
            throw new IndexOutOfBoundsException();
        }
    }

    private static void turn(boolean right) {
        if (!right) {
            throw new IllegalStateException();
        }
    }

    private static void range(boolean right) {
        if (!right) {
            throw new IllegalArgumentException();
        }
    }

    private static void meaning(boolean right) {
        if (!right) {
            throw new UnsupportedOperationException();
        }
    }
}

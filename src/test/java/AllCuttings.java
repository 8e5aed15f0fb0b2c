import java.util.ArrayList;
import java.util.List;

/**
 * The plan by the document's own words: all ways from the torch to the end are gone, one by one, and compared
 * with each other. For short strands alone.
 */
final class AllCuttings {
    private final Model model;
    private final int end;
    private final List<Model.Part> way = new ArrayList<>();
    private List<Model.Part> best = null;

    private AllCuttings(Model model, int end) {
        this.model = model;
        this.end = end;
    }

    /** The parts of the best way; the strand ends at that place. */
    static List<Model.Part> best(Model model, int end) {
        AllCuttings all = new AllCuttings(model, end);
        all.goOn((int) model.torch());
        return scrapAsOne(all.best);
    }

    static long scrapOf(List<Model.Part> parts) {
        long scrap = 0;
        for (Model.Part part : parts) {
            scrap += part.wanted == -1 ? part.steps : 0;
        }
        return scrap;
    }

    private static List<Model.Part> scrapAsOne(List<Model.Part> steps) {
        List<Model.Part> parts = new ArrayList<>();
        for (Model.Part part : steps) {
            int last = parts.size() - 1;
            if (part.wanted == -1 && last >= 0 && parts.get(last).wanted == -1) {
                Model.Part scrap = parts.get(last);
                parts.set(last, new Model.Part(-1, scrap.begin, scrap.steps + 1));
            } else {
                parts.add(part);
            }
        }
        return parts;
    }

    private void goOn(int place) {
        if (place == end) {
            if (best == null || isBetter(way, best)) {
                best = new ArrayList<>(way);
            }
            return;
        }
        goOnWith(new Model.Part(-1, place, 1));
        for (int wanted = 0; wanted < model.wantedLengths(); wanted++) {
            for (int q = place + 1; q <= end; q++) {
                if (model.isPiece(wanted, place, q)) {
                    goOnWith(new Model.Part(wanted, place, q - place));
                }
            }
        }
    }

    private void goOnWith(Model.Part part) {
        way.add(part);
        goOn(part.begin + part.steps);
        way.remove(way.size() - 1);
    }

    private static boolean isBetter(List<Model.Part> one, List<Model.Part> other) {
        long difference = scrapOf(one) - scrapOf(other);
        if (difference != 0) {
            return difference < 0;
        }
        for (int i = 0; i < Math.min(one.size(), other.size()); i++) {
            Model.Part a = one.get(i);
            Model.Part b = other.get(i);
            if (a.wanted != b.wanted) {
                return b.wanted == -1 || a.wanted != -1 && a.wanted < b.wanted;
            }
            if (a.steps != b.steps) {
                return a.steps > b.steps;
            }
        }
        return false;
    }
}

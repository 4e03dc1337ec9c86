import java.util.ArrayList;
import java.util.List;

/** What each Scene answers when nothing more was called, to tell what a call has changed. */
final class Usual {
    private final List<List<List<Long>>> answers = new ArrayList<>();

    Usual() {
        for (Scene scene : Scene.values()) {
            List<List<Long>> parts = new ArrayList<>();
            for (int part = 0; part < Probe.PARTS; part++) {
                parts.add(Probe.of(scene.make(), part));
            }
            answers.add(parts);
        }
    }

    /** Which answers of a part are others now, by their places; all are asked of x for this. */
    List<Integer> unlike(Scene scene, SpotRows x, int part) {
        List<Long> before = answers.get(scene.ordinal()).get(part);
        List<Long> now = Probe.of(x, part);
        List<Integer> places = new ArrayList<>();
        for (int place = 0; place < before.size(); place++) {
            if (!before.get(place).equals(now.get(place))) {
                places.add(place);
            }
        }
        return places;
    }
}

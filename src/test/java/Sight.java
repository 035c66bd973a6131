import java.util.LinkedHashMap;
import java.util.Map;

/** All that can be seen of an object, by the call that shows it: 112 of the 512 calls that it is made for. */
final class Sight {
    private Sight() {
    }

    static Map<String, Integer> of(MastLog log) {
        Map<String, Integer> seen = new LinkedHashMap<>();
        for (int g = 0; g < 2; g++) {
            for (int what = 0; what < 8; what++) {
                seen.put("look(" + g + ", " + what + ")", log.look(g, what));
            }
            for (int i = 0; i < 24; i++) {
                seen.put("at(" + g + ", " + i + ")", log.at(g, i));
            }
        }
        for (int i = 0; i < 24; i++) {
            seen.put("marked(" + i + ")", log.marked(i) ? 1 : 0);
            seen.put("ordered(" + i + ")", log.ordered(i));
        }
        return seen;
    }
}

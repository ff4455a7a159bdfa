import java.util.LinkedHashMap;
import java.util.Map;

/** All that the getters tell of an object, but how often it has refused. */
final class Snapshot {
    private final Map<String, Long> answers = new LinkedHashMap<>();

    Snapshot(Hues x) {
        for (int what = 3; what < 8; what++) {
            note("told " + what, x.told(what));
        }
        for (int what = 0; what < 8; what++) {
            note("count " + what, x.count(what));
        }
        for (int i = 0; i < x.count(0); i++) {
            for (int what = 0; what < 6; what++) {
                note("of " + i + " " + what, x.of(i, what));
            }
        }
        for (int e = 0; e < 4; e++) {
            for (int k = 0; k < 13; k++) {
                note("look " + e + " " + k, x.look(e, k));
            }
        }
        for (int place = 0; place < 9; place++) {
            note("palette " + place, x.palette(place));
        }
        note("least", x.least());
        note("nearest", x.nearest());
    }

    private void note(String what, long answer) {
        answers.put(what, answer);
    }

    /** The first thing that is other in the two, told in words; an empty text, if there is none. */
    String difference(Snapshot other) {
        if (answers.equals(other.answers)) {
            return "";
        }
        for (Map.Entry<String, Long> own : answers.entrySet()) {
            Long theirs = other.answers.get(own.getKey());
            if (!own.getValue().equals(theirs)) {
                return own.getKey() + ": " + own.getValue() + " here, " + theirs + " there";
            }
        }
        return "more is told there";
    }

    /** The same, but for some getters, named as in note(). */
    Snapshot without(String... names) {
        for (String name : names) {
            answers.remove(name);
        }
        return this;
    }
}

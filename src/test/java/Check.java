import java.util.Set;
import java.util.TreeSet;

/** Counts and prints answers that are not as due; a test ends with finish(). What is asked begins with its promise's number. */
final class Check {
    private final String name;
    private final Set<String> promises = new TreeSet<>();
    private int asked;
    private int wrong;

    Check(String name) {
        this.name = name;
    }

    void due(String what, long got, long want) {
        asked++;
        promises.add(what.split(" ")[0]);
        if (got != want) {
            wrong++;
            System.out.println(name + ": " + what + " answered " + got + ", due is " + want);
        }
    }

    void holds(String what, boolean holds) {
        due(what, holds ? 1 : 0, 1);
    }

    /** No promise of these may have been left out. */
    void covers(int firstPromise, int lastPromise) {
        for (int promise = firstPromise; promise <= lastPromise; promise++) {
            holds("a line of promise " + promise, promises.contains(String.valueOf(promise)));
        }
    }

    void finish() {
        System.out.println(name + ": " + asked + " answers, " + wrong + " not as due");
        if (wrong != 0) {
            System.exit(1);
        }
    }

    /** Puts a text behind THE TAPE, eight bytes a call: the latest answer. */
    static int type(BargainHall x, String text) {
        int answer = 0;
        for (int from = 0; from < text.length(); from += 8) {
            int to = Math.min(from + 8, text.length());
            long w = 0;
            for (int i = from; i < to; i++) {
                w = w << 8 | text.charAt(i);
            }
            answer = x.type(w, to - from);
        }
        return answer;
    }

    static int wish(BargainHall x, int house, String text) {
        type(x, text);
        return x.wish(house);
    }
}

import java.util.Map;
import java.util.WeakHashMap;

/** Counts answers that are not due, tells each of them, and feeds texts to objects of FogShare. */
final class Checks {
    private static final int MOST_CALLS = 512;

    private final Map<FogShare, Integer> calls = new WeakHashMap<>();
    private int wrong;
    private int all;
    private String about = "";

    /** What the answers looked at next are about: a promise of the document. */
    void about(String what) {
        about = what;
    }

    /** No test may rest on what a 513th call answers. */
    void called(FogShare fog) {
        if (calls.merge(fog, 1, Integer::sum) > MOST_CALLS) {
            throw new IllegalStateException(about + ": a 513th call");
        }
    }

    void due(String call, long got, long want) {
        all++;
        if (got != want) {
            wrong++;
            System.out.println(about + ": " + call + " answered " + got + ", due is " + want);
        }
    }

    void due(String call, boolean got, boolean want) {
        due(call, got ? 1 : 0, want ? 1 : 0);
    }

    /** Feeds a text, a byte a char; what fills it up to twenties is taken back. */
    void feed(FogShare fog, String text) {
        for (int at = 0; at < text.length(); at += 20) {
            int[] words = new int[5];
            for (int i = 0; i < 20; i++) {
                words[i / 4] = words[i / 4] << 8 | (at + i < text.length() ? text.charAt(at + i) & 255 : ' ');
            }
            called(fog);
            due("feed", fog.feed(words[0], words[1], words[2], words[3], words[4]), at + 20);
        }
        int over = (20 - text.length() % 20) % 20;
        called(fog);
        due("back", fog.back(over), text.length());
    }

    private void readAndPlace(FogShare fog, String text, int fault, int place) {
        called(fog);
        due("read of " + text, fog.read(), fault);
        called(fog);
        due("place of " + text, fog.place(), place);
    }

    /** Reads a text without a FAULT. */
    FogShare read(FogShare fog, String text) {
        feed(fog, text);
        readAndPlace(fog, text, 0, -1);
        return fog;
    }

    FogShare read(String text) {
        return read(new FogShare(), text);
    }

    /** Reads a text with a FAULT, which is at the ^ (that is no part of the text). */
    void fault(int number, FogShare fog, String text) {
        String rest = text.replace("^", "");
        feed(fog, rest);
        readAndPlace(fog, text, number, text.indexOf('^'));
    }

    void fault(int number, String text) {
        fault(number, new FogShare(), text);
    }

    /** Ends the test: with exit code 1 if an answer was not due. */
    void end(String name) {
        System.out.println(name + ": " + all + " answers looked at, " + wrong + " not as due");
        if (wrong != 0 || all == 0) {
            System.exit(1);
        }
    }
}

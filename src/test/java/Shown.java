import java.util.ArrayList;
import java.util.List;

/** All that an object shows: two objects whose answers are the same are taken as being in the same state. */
final class Shown {
    private final FogShare x;
    private final List<String> list = new ArrayList<>();

    private Shown(FogShare of) {
        x = of;
    }

    /** What is now, what can be undone, what SLOTS hold, what is on the tape: the object is spent by it. */
    static List<String> all(FogShare of) {
        Shown shown = new Shown(of);
        shown.put("place", of.place());
        shown.now();
        shown.undoAll();
        shown.restoreAll();
        shown.readTape();
        return shown.list;
    }

    /** What is now but for the tape and the latest FAULT. */
    static List<String> present(FogShare of) {
        Shown shown = new Shown(of);
        shown.now();
        shown.undoAll();
        shown.restoreAll();
        return shown.list;
    }

    private void put(String what, int answer) {
        list.add(what + " = " + answer);
    }

    private void counts() {
        for (int what = 0; what <= 17; what++) {
            if (what != 8) {
                put("count " + what, x.count(what));
            }
        }
    }

    private void now() {
        counts();
        put("over", x.over());
        cells(4);
        holdings(7);
        for (int use = 0; use < x.count(3); use++) {
            for (int what = 0; what < 5; what++) {
                put("use " + use + " " + what, x.use(use, what));
            }
        }
        for (int n = 0; n < 5; n++) {
            put("wind " + n, x.wind(n));
            put("fog in " + n, x.all(24 * n / 2, 0, 0));
        }
        int told = x.count(10);
        for (int k = 0; k <= told; k++) {
            put("leaks " + k, x.leaks(k));
            put("ask " + k, x.ask(k, 1));
        }
    }

    private void cells(int most) {
        for (int y = 0; y < x.count(1) && y < 2; y++) {
            for (int across = 0; across < x.count(0) && across < 3; across++) {
                for (int what = 0; what < most; what++) {
                    put("cell " + across + " " + y + " " + what, x.cell(across, y, what));
                }
            }
        }
    }

    private void holdings(int most) {
        int many = x.count(2);
        for (int i = 0; i < many; i++) {
            for (int what = 0; what < most; what++) {
                put("holding " + i + " " + what, x.holding(i, what));
            }
            for (int k = 0; k < many; k++) {
                put("lent " + i + " " + k, x.lent(i, k));
            }
        }
    }

    private void undoAll() {
        boolean undone = true;
        for (int i = 0; i < 31 && undone; i++) {
            undone = x.undo();
            put("undo", undone ? 1 : 0);
            put("hour", x.count(4));
            put("fog", x.count(5));
            put("stores", x.count(6));
            put("drawn", x.count(7));
            put("nobody's", x.count(14));
        }
        cells(2);
        holdings(7);
    }

    private void restoreAll() {
        for (int slot = 0; slot < 3; slot++) {
            if (x.restore(slot)) {
                put("slot held", slot);
                put("hour", x.count(4));
                put("drawn", x.count(7));
                cells(2);
                put("netted", x.holding(0, 6));
                put("store", x.holding(0, 1));
            }
        }
    }

    private void readTape() {
        put("bytes", x.count(8));
        put("read", x.read());
        put("place", x.place());
        for (int what = 0; what <= 8; what++) {
            put("count " + what, x.count(what));
        }
    }
}

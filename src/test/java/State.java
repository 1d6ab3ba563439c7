/** All that can be asked of an object without its being changed, as one text: two alike ones are of alike states. */
final class State {
    private State() {
    }

    /** All but the tape and the place of the latest fault. */
    static String of(WellVillages x) {
        StringBuilder s = new StringBuilder();
        for (int what = 0; what <= 9; what++) {
            if (what != 7) {
                s.append(x.count(what)).append(' ');
            }
        }
        for (int c = 0; c < x.count(0); c++) {
            for (int what = 0; what <= 6; what++) {
                s.append(x.cell(c, what)).append(' ');
            }
        }
        for (int v = 0; v < x.count(3); v++) {
            for (int what = 0; what <= 5; what++) {
                s.append(x.village(v, what)).append(' ');
            }
            s.append(x.want(v)).append(' ').append(x.dry(v, 9)).append(' ');
        }
        return s.append(flows(x)).append(told(x)).toString();
    }

    static String withTape(WellVillages x) {
        return of(x) + " tape " + x.count(7) + " place " + x.place();
    }

    private static String flows(WellVillages x) {
        StringBuilder s = new StringBuilder();
        for (int p = 0; p < x.count(1); p++) {
            s.append(x.flow(p, false)).append(' ');
        }
        for (int r = 0; r < x.count(2); r++) {
            s.append(x.flow(r, true)).append(' ');
        }
        return s.toString();
    }

    private static String told(WellVillages x) {
        StringBuilder s = new StringBuilder();
        for (int k = 0; k <= x.count(6); k++) {
            s.append(x.off(k)).append(' ');
        }
        return s.toString();
    }
}

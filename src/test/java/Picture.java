/** All that can be asked of an object, as a text. */
final class Picture {
    private Picture() {
    }

    /** What is so now. Nothing changes by it. */
    static String of(GurdyTide x) {
        StringBuilder s = new StringBuilder();
        int[] told = new int[19];
        for (int what = 0; what < told.length; what++) {
            told[what] = x.told(what);
            s.append(told[what]).append(' ');
        }
        for (int what = 0; what < 4; what++) {
            things(x, told, s, what);
        }
        int seed = x.seed(0);
        x.seed(seed);
        return s.append("j").append(x.judge()).append(" l").append(x.look()).append(" s").append(seed).toString();
    }

    private static void things(GurdyTide x, int[] told, StringBuilder s, int what) {
        s.append("| ");
        for (int c = 0; c < told[0]; c++) {
            s.append(x.cell(c, what)).append(' ');
        }
        for (int t = 0; t < told[1]; t++) {
            s.append(x.tower(t, what)).append(' ');
        }
        for (int p = 0; p < told[2]; p++) {
            s.append(x.player(p, what)).append(' ');
        }
        for (int b = 0; b < told[3]; b++) {
            s.append(x.boat(b, what)).append(' ');
        }
    }

    /** What is so now, the latest fault, all that can be undone, both images, what the text says: the object is spent. */
    static String deep(GurdyTide x) {
        return x.fault() + " " + deepButFault(x) + " " + x.coast() + " " + x.fault();
    }

    static String deepButFault(GurdyTide x) {
        StringBuilder s = new StringBuilder(of(x));
        for (int i = 0; i <= 16 && x.undo() >= 0; i++) {
            s.append("\nundone: ").append(of(x));
        }
        for (int i = 0; i <= 1; i++) {
            s.append("\nimage: ").append(x.goBack(i)).append(' ').append(of(x));
        }
        return s.append('\n').toString();
    }
}

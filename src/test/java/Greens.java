/** Greens as the tests need them. */
final class Greens {
    private Greens() {
    }

    /** A ring of n DANCERS, with RIBBONS of the COLOURS 0, 1 .. (7 at most) and of one LENGTH. */
    static MaypoleGreen standing(int n, int length) {
        MaypoleGreen g = new MaypoleGreen();
        g.ring(n);
        for (int i = 0; i < n; i++) {
            g.person(0, 1 + i, 1 + i);
            g.stand(i, i);
            g.ribbon(i, Math.min(i, 7), length);
        }
        return g;
    }

    static MaypoleGreen dancing(int n, int length) {
        MaypoleGreen g = standing(n, length);
        g.begin();
        return g;
    }

    /** Feeds a text; what the last feed() answered. */
    static int feed(MaypoleGreen g, String text) {
        int answer = g.feed(0, 0);
        for (int i = 0; i < text.length(); i += 4) {
            int bytes = 0;
            int n = Math.min(4, text.length() - i);
            for (int j = 0; j < n; j++) {
                bytes = bytes << 8 | text.charAt(i + j) & 255;
            }
            answer = g.feed(bytes, n);
        }
        return answer;
    }

    static int figure(MaypoleGreen g, String text) {
        feed(g, text);
        return g.figure();
    }

    static int[] told(MaypoleGreen g, int figure) {
        int[] steps = new int[g.told(figure, -1)];
        for (int i = 0; i < steps.length; i++) {
            steps[i] = g.told(figure, i);
        }
        return steps;
    }
}

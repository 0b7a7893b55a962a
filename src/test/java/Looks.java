import java.util.ArrayList;
import java.util.List;

/** All that can be seen of an object from outside, as calls; what is seen only by a change comes last. */
final class Looks {
    private final List<Run.Call> calls = new ArrayList<>();
    private final List<List<Run.Call>> parts = new ArrayList<>();
    private final int most;
    private final int people;
    private final int n;
    private final int steps;
    private final int figures;
    private final int rows;

    private Looks(Player player, Object green, int most) {
        this.most = most;
        people = player.answer(green, "count", 0);
        n = player.answer(green, "count", 1);
        steps = player.answer(green, "count", 2);
        figures = player.answer(green, "count", 3);
        rows = player.answer(green, "rows");
    }

    /** Rows of calls, each for an object of its own on which so many calls are left. */
    static List<List<Run.Call>> at(Player player, Object green, int most) {
        if (most < 100) {
            throw new IllegalStateException("too few calls are left to look");
        }
        Looks looks = new Looks(player, green, most);
        looks.still();
        looks.byChange();
        return looks.parts;
    }

    private void look(String name, int... args) {
        calls.add(new Run.Call(name, args, null, Run.Change.ANYTHING));
        if (calls.size() == most) {
            close();
        }
    }

    private void close() {
        parts.add(new ArrayList<>(calls));
        calls.clear();
    }

    private void still() {
        for (int what = 0; what < 8; what++) {
            look("count", what);
        }
        look("girth");
        look("beat");
        look("wrong");
        places();
        for (int i = 0; i <= steps; i++) {
            look("step", i);
        }
        for (int row = 0; row <= rows; row++) {
            for (int i = 0; i < 3 * n; i++) {
                look("cloth", row, i / 3, i % 3);
            }
        }
        for (int ribbon = -1; ribbon <= n; ribbon++) {
            look("colours", 4, ribbon);
        }
        for (int figure = -1; figure < figures; figure++) {
            ofFigure(figure);
        }
        for (int i = 0; i < 9; i++) {
            look("trace", i);
        }
        for (int i = 0; i < 5 * people; i++) {
            look("taken", i / 5, i % 5);
        }
        for (int i = 0; i < 6 * 61; i++) {
            look("read", i / 61, i % 61);
        }
        look("fewest", 0, -1);
        look("set", (1 << n) - 1, -1);
        close();
    }

    private void places() {
        for (int i = 0; i < 4 * n; i++) {
            look("at", i / 4, i % 4);
        }
    }

    private void ofFigure(int figure) {
        look("form", figure, -2);
        look("form", figure, -1);
        look("form", figure, 0);
        look("right", figure);
        look("slips", figure, -1);
        look("slips", figure, 0);
        for (int i = -1; i < 12; i++) {
            look("told", figure, i);
        }
        look("told", figure, 299);
    }

    private void byChange() {
        look("figure");
        look("count", 4);
        for (int i = -1; i < 12; i++) {
            look("told", figures, i);
        }
        close();
        look("feed", 'w', 1);
        look("figure");
        look("told", figures, -1);
        close();
        look("pictureless");
        look("picture", 0, 0, 1);
        look("wrong");
        close();
        for (int i = 0; i < people; i++) {
            look("act", i, 2, 3);
            look("count", 7);
        }
        close();
        for (int tape = 0; tape < 6; tape++) {
            look("item", tape, 0, 70200);
            look("read", tape, 0);
        }
        close();
        steps();
        ring();
    }

    private void steps() {
        for (int how = 0; how < 2; how++) {
            look("walk", how);
            look("pass", 0, how);
            places();
            close();
        }
        look("walk", 0);
        for (int i = 0; i < 3 * n; i++) {
            look("cloth", rows, i / 3, i % 3);
        }
        close();
        look("end");
        places();
        look("begin");
        look("pass", 0, 0);
        close();
    }

    private void ring() {
        look("begin");
        places();
        close();
        look("person", 1, 2, 3);
        for (int place = 0; place < n; place++) {
            look("stand", place, people);
            look("ribbon", place, 3, 33);
        }
        places();
        close();
        look("ring", 3);
        look("at", 0, 0);
        look("count", 1);
        close();
    }
}

/** Promises 16 to 20: what is asked over the STEPS. */
public final class OverStepsTest {
    public static void main(String[] args) {
        together();
        togetherOutside();
        changes();
        twins();
        houses();
        means();
        Due.end();
    }

    private static void dueTogether(Undogroups x, int one, int two, int... due) {
        for (int what = 0; what < 4; what++) {
            Due.same("together(" + one + ", " + two + ", " + what + ")", x.together(one, two, what), due[what]);
            Due.same("together(" + two + ", " + one + ", " + what + ")", x.together(two, one, what), due[what]);
        }
    }

    private static void together() {
        Undogroups x = House.plain(3, new int[] {0, 1}, new int[] {1, 2});
        dueTogether(x, 0, 1, 2, 4, 5, 2);
        dueTogether(x, 0, 2, 1, 5, 5, 1);
        dueTogether(x, 0, 0, 5, 1, 5, 5);
        dueTogether(x, 2, 2, 3, 3, 5, 3);
        dueTogether(x, 0, 3, 0, -1, -1, 0);
        dueTogether(x, 3, 3, 0, -1, -1, 0);
        dueTogether(x, 23, 23, 0, -1, -1, 0);
        x.cut(0);
        x.join(0);
        x.cut(1);
        x.cut(0);
        dueTogether(x, 0, 1, 4, 4, 8, 2);
        dueTogether(x, 0, 2, 2, 5, 7, 1);
        dueTogether(x, 1, 2, 3, 5, 7, 3);
        x.back(0);
        dueTogether(x, 0, 0, 9, 1, 9, 9);
        x.back(5);
        dueTogether(x, 0, 0, 10, 1, 11, 9);
        dueTogether(x, 0, 1, 5, 4, 11, 2);
        dueTogether(new Undogroups(), 0, 1, 0, -1, -1, 0);
    }

    private static void togetherOutside() {
        Undogroups x = House.with(2);
        for (int number : new int[] {-1, 24, Integer.MIN_VALUE, Integer.MAX_VALUE}) {
            Due.fails(x, "together(" + number + ", 0, 0)", House.ARGUMENT, () -> x.together(number, 0, 0));
            Due.fails(x, "together(0, " + number + ", 0)", House.ARGUMENT, () -> x.together(0, number, 0));
        }
        for (int what : new int[] {-1, 4, Integer.MIN_VALUE, Integer.MAX_VALUE}) {
            Due.fails(x, "together(0, 1, " + what + ")", House.ARGUMENT, () -> x.together(0, 1, what));
        }
    }

    private static void changes() {
        Undogroups x = House.plain(3, new int[] {0, 1}, new int[] {1, 2}, new int[] {2, 0});
        x.cut(0);
        x.cut(2);
        Due.same("new from 4 to 6", x.change(4, 6, true), 6);
        Due.same("gone from 4 to 6", x.change(4, 6, false), 0);
        Due.same("new from 4 to 8", x.change(4, 8, true), 2);
        Due.same("gone from 4 to 8", x.change(4, 8, false), 1);
        Due.same("new from 8 to 4", x.change(8, 4, true), 1);
        Due.same("gone from 8 to 4", x.change(8, 4, false), 2);
        Due.same("new from 5 to 5", x.change(5, 5, true), 0);
        for (int step : new int[] {-1, 9, Integer.MIN_VALUE, Integer.MAX_VALUE}) {
            Due.fails(x, "change(" + step + ", 0)", House.INDEX, () -> x.change(step, 0, true));
            Due.fails(x, "change(0, " + step + ")", House.INDEX, () -> x.change(0, step, false));
        }
    }

    private static void twins() {
        Undogroups x = House.plain(3, new int[] {0, 1}, new int[] {0, 1});
        x.cut(1);
        x.cut(0);
        x.back(2);
        x.back(5);
        x.back(9);
        int[] due = {0, 1, 2, 3, 4, 5, 4, 3, 2, 5, 5};
        for (int step = 0; step < due.length; step++) {
            Due.same("twin(" + step + ")", x.twin(step), due[step]);
        }
        Due.same("no twins of earlier ones", x.house(6), 6);
        for (int step : new int[] {-1, 11, Integer.MIN_VALUE, Integer.MAX_VALUE}) {
            Due.fails(x, "twin(" + step + ")", House.INDEX, () -> x.twin(step));
        }
    }

    private static void houses() {
        Undogroups x = House.plain(3, new int[] {0, 1}, new int[] {1, 2});
        x.cut(0);
        x.cut(1);
        x.join(1);
        x.back(0);
        x.back(1);
        x.back(8);
        x.call();
        int[] due = {12, 3, 2, 2, 1, 3, 7, 1};
        for (int what = 0; what < due.length; what++) {
            Due.same("house(" + what + ")", x.house(what), due[what]);
        }
        for (int what : new int[] {-1, 8, Integer.MIN_VALUE, Integer.MAX_VALUE}) {
            Due.fails(x, "house(" + what + ")", House.ARGUMENT, () -> x.house(what));
        }
    }

    private static void means() {
        Undogroups x = House.with(3);
        Due.real("mean()", x.mean(), 6.0 / 4.0);
        x.edge(0, 1, 0, 0);
        x.edge(1, 2, 0, 0);
        Due.real("mean()", x.mean(), 9.0 / 6.0);
        x.back(0);
        Due.real("mean()", x.mean(), 9.0 / 7.0);
        x.back(0);
        x.back(3);
        Due.real("mean()", x.mean(), 12.0 / 9.0);
    }
}

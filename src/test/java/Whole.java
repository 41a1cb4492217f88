import java.util.function.Supplier;

/** Objects in which there is something of all, and all that can be asked of one, in fewer than 512 calls together. */
final class Whole {
    /** A call, with its arguments. */
    interface Call {
        long of(StraightFurrow x);
    }

    private final Due due;

    Whole(Due answers) {
        due = answers;
    }

    /** Four MEN, two CASES, two rows of each list, one of them TOLD, one AWAY; an IMAGE, a TRACE, a TAPE. */
    static StraightFurrow some() {
        StraightFurrow x = unseen();
        x.image();
        x.act(1, 2, 5);
        x.lay(3, 1);
        x.peg(0, 3);
        x.row(1, 2, 5);
        x.pass(1);
        Due.feeds(x, "draw 7 x=0|");
        return x;
    }

    /** As some(), ahead of THE IMAGE. */
    static StraightFurrow unseen() {
        StraightFurrow x = Due.in("pass 35;draw 3 x<5|f>3;hold 2 l>3");
        x.man(0, 1, 4);
        x.man(6, 3, 2);
        x.man(2, 5, 8);
        x.man(5, 9, 0);
        x.row(1, 1, 7);
        x.lay(2, 6);
        x.lay(5, 4);
        x.lay(11, 9);
        x.plead(0, 1);
        x.plead(3, 2);
        x.see(0, 1, 5);
        x.see(2, 12, 3);
        x.plan(1, 0);
        x.plan(0, 0);
        x.book(0, 4);
        x.book(1, 2);
        x.away(2, true);
        x.pass(1);
        return x;
    }

    /** All that has a limit is at it, but YEAR. */
    static StraightFurrow full() {
        StraightFurrow x = Due.in("pass 1");
        for (int i = 2; i <= 4; i++) {
            Due.parish(x, "pass " + i);
        }
        Due.parish(x, "pass 35;draw 3 x<5|f>3;hold 2 l>3");
        for (int i = 0; i < 6; i++) {
            x.man(i + 1, i, i);
        }
        for (int i = 0; i < 5; i++) {
            x.plead(i, i + 1);
            x.see(i, i + 3, i);
        }
        for (int i = 0; i < 8; i++) {
            x.plan(i % 4, i % 6);
            x.book(i % 6, i % 6);
        }
        x.pass(1);
        x.image();
        for (int i = 0; i < 100; i++) {
            x.feed("pass 7".charAt(i % 6));
        }
        return x;
    }

    /** As unseen(), in YEAR 9999. */
    static StraightFurrow late() {
        StraightFurrow x = unseen();
        for (int i = 0; i < 166; i++) {
            x.pass(60);
        }
        x.pass(38);
        return x;
    }

    /** All that can be asked; in the end THE TAPE is read, and THE IMAGE taken up. */
    static String of(StraightFurrow x) {
        StringBuilder told = new StringBuilder();
        sums(x, told);
        for (int what = 10; what <= 21; what++) {
            told.append(x.told(what)).append(' ');
        }
        for (int i = 0; i < 7; i++) {
            told.append(x.trace(i)).append(' ');
        }
        for (int man = 0; man < 6; man++) {
            for (int what = 0; what <= 6; what++) {
                told.append(x.of(man, what)).append(' ');
            }
            for (int step = 0; step < 12; step++) {
                told.append(x.strays(man, step, 4)).append(' ');
            }
            told.append(x.from(man)).append(' ').append(x.firm(man, 0)).append(' ');
        }
        told.append(x.looked()).append(' ').append(x.done(0)).append(' ').append(x.done(1)).append(" | ");
        told.append(x.parish()).append(' ').append(x.strays(0, 0, 4)).append(" | ").append(x.undo()).append(' ');
        sums(x, told);
        return told.toString();
    }

    private static void sums(StraightFurrow x, StringBuilder told) {
        for (int what = 0; what <= 7; what++) {
            told.append(x.count(what)).append(' ');
        }
        for (int what = 0; what <= 4; what++) {
            told.append(x.told(what)).append(' ');
        }
        for (int plea = 0; plea < 5; plea++) {
            told.append(x.told(30 + plea)).append(' ');
        }
    }

    /** The call answers so, and all is then as in one that was not called. */
    void unchanged(String name, Supplier<StraightFurrow> made, long want, Call call) {
        StraightFurrow x = made.get();
        due.is(name, call.of(x), want);
        isAs(name, x, made);
    }

    /** Whatever the call answers, it answers so again, and all is then as in one that was not called. */
    void asked(String name, Supplier<StraightFurrow> made, Call call) {
        StraightFurrow x = made.get();
        long first = call.of(x);
        due.is(name + " again", call.of(x), first);
        isAs(name, x, made);
    }

    private void isAs(String name, StraightFurrow x, Supplier<StraightFurrow> made) {
        due.is(name + " changes nothing", of(x).equals(of(made.get())) ? 1 : 0, 1);
    }
}

import java.util.ArrayList;
import java.util.List;
import java.util.function.Supplier;

/**
 * All that can be asked of an object, to compare two that should be alike. Asking undoes, loses and forgets what
 * there is, and each object has 512 calls, so every part asks an object that is made anew.
 */
final class State {
    static final int HOUSES = 6, BRIDES = 8, SHEETS = 4, ITEMS = 60;
    private final List<Long> answers = new ArrayList<>();

    static List<Long> of(Supplier<BrideDoors> made) {
        State all = new State();
        all.counts(made.get());
        all.askWhatIsTold(made.get());
        all.askWhatFollows(made.get());
        for (int s = 0; s < SHEETS; s++) {
            all.emptySheet(made.get(), s);
        }
        all.undoTexts(made.get());
        all.undoEvents(made.get());
        all.forgetSeen(made.get());
        return all.answers;
    }

    /** What follows from texts, events and what was seen, but not how the texts are written. */
    static List<Long> follows(Supplier<BrideDoors> made) {
        State part = new State();
        part.askWhatIsTold(made.get());
        part.askWhatFollows(made.get());
        return part.answers;
    }

    private void add(long answer) {
        answers.add(answer);
    }

    private void counts(BrideDoors x) {
        for (int what = 0; what <= 8; what++) add(x.count(what));
        for (int text = 0; text < 2; text++) add(x.fault(text));
        add(x.digest());
    }

    private void askWhatIsTold(BrideDoors x) {
        for (int what : new int[] {0, 1, 4, 5, 6, 7}) add(x.count(what));
        for (int h = 0; h < HOUSES; h++) {
            for (int what = 0; what < 2; what++) add(x.house(h, what));
            for (int year : new int[] {0, 5, 23}) {
                for (int what = 0; what < 5; what++) add(x.at(year, h, what));
            }
        }
        for (int b = 0; b < BRIDES; b++) {
            for (int what = 0; what < 4; what++) add(x.bride(b, what));
            for (int year : new int[] {0, 5, 23}) {
                for (int what = 0; what < 3; what++) add(x.door(year, b, what));
            }
            add(x.kin(b));
        }
    }

    private void askWhatFollows(BrideDoors x) {
        for (int year = 0; year <= 23; year++) add(x.draught(year));
        add(x.lowest());
        add(x.never());
        for (int what = 0; what < 2; what++) {
            add(x.dog(what));
            add(x.left(what));
            add(x.ages(7, 6, what));
            for (int b = 0; b < BRIDES; b++) {
                add(x.wed(b, what));
                add(x.when(b, what));
                add(x.from(b, what));
            }
            for (int h = 0; h < HOUSES; h++) {
                add(x.was(h, what));
                add(x.chance(5, h, what));
            }
        }
        for (int h = 0; h < HOUSES; h++) add(x.ask(h));
        for (int i = -1; i <= 1; i++) add(x.spare(i));
    }

    private void emptySheet(BrideDoors x, int s) {
        for (int form = 0; form < 3; form++) {
            for (int i = 0; i <= ITEMS; i++) add(x.get(s, form, i));
        }
        add(x.lose(s));
    }

    private void undoTexts(BrideDoors x) {
        for (int text = 0; text < 2; text++) {
            for (int i = 0; i <= 40; i++) {
                add(x.undo(text));
                add(x.fault(text));
                add(x.count(text));
            }
        }
    }

    private void undoEvents(BrideDoors x) {
        for (int i = 0; i <= 8; i++) {
            add(x.back());
            for (int year = 0; year <= 23; year++) add(x.draught(year));
            add(x.left(1));
        }
    }

    private void forgetSeen(BrideDoors x) {
        add(x.forget());
        add(x.forget());
        add(x.never());
        for (int h = 0; h < HOUSES; h++) add(x.was(h, 0));
    }
}

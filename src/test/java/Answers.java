import java.util.ArrayList;
import java.util.List;

/** What can be asked of a print, answered as texts. It takes some 300 calls, and undoes all that is saved. */
final class Answers {
    private final List<String> answers = new ArrayList<>();
    private final ZonePrint print;

    private Answers(ZonePrint print) {
        this.print = print;
    }

    static List<String> of(ZonePrint print) {
        Answers all = new Answers(print);
        all.addWhole();
        for (int zone = 0; zone < print.count(0); zone++) {
            all.addZone(zone);
        }
        all.addUndone();
        all.add("set(10)", print.set(10));
        all.add("clearBuffer()", print.clearBuffer());
        return all.answers;
    }

    private void add(String call, long answer) {
        answers.add(call + " answered " + answer);
    }

    private void addWhole() {
        for (int what = 0; what <= 11; what++) {
            add("count(" + what + ")", print.count(what));
        }
        for (int tone = 1; tone <= 10; tone++) {
            add("mark(" + tone + ")", print.mark(tone));
        }
        for (int time : new int[] {1, 200, 2000}) {
            add("ifExposed(" + time + ", 0)", print.ifExposed(time, 0));
            add("ifExposed(" + time + ", 1)", print.ifExposed(time, 1));
        }
        add("bestTime()", print.bestTime());
        add("bestGrade()", print.bestGrade());
        add("common(0)", print.common(0));
        add("common(1)", print.common(1));
        answers.add("rightShare() answered " + print.rightShare());
        add("digest()", print.digest());
        add("firstError()", print.firstError());
    }

    private void addZone(int zone) {
        for (int what = 0; what <= 10; what++) {
            add("zoneOf(" + zone + ", " + what + ")", print.zoneOf(zone, what));
        }
        for (int what = 0; what <= 3; what++) {
            add("strip(" + zone + ", 10, 9, " + what + ")", print.strip(zone, 10, 9, what));
            add("strip(" + zone + ", 999, 9, " + what + ")", print.strip(zone, 999, 9, what));
        }
        for (int what = 0; what <= 1; what++) {
            add("ifBurned(" + zone + ", 0, " + what + ")", print.ifBurned(zone, 0, what));
            add("ifBurned(" + zone + ", 999, " + what + ")", print.ifBurned(zone, 999, what));
        }
    }

    /** What was saved can be seen only by undoing it. */
    private void addUndone() {
        for (int undone = 0; undone < 9 && print.count(11) > 0; undone++) {
            add("undo()", print.undo());
            add("digest() behind it", print.digest());
        }
        answers.add("undo() without a saved state: " + Checks.outcome(print::undo));
    }
}

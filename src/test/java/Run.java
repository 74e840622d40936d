/** A new object and calls of it, written as in "room(10, 0) = 0": what stands behind "=" is the answer that is due. */
final class Run {
    private final Check check;
    private final RoomTails object = new RoomTails();
    private int made;

    Run(Check check) {
        this.check = check;
    }

    Run calls(String... lines) {
        for (String line : lines) {
            String call = Calls.callIn(line);
            check.due(call, answer(call), Calls.dueIn(line));
        }
        return this;
    }

    /** Calls whose answers do not matter. */
    Run after(String... calls) {
        for (String call : calls) {
            answer(call);
        }
        return this;
    }

    Run times(int times, String... calls) {
        for (int i = 0; i < times; i++) {
            after(calls);
        }
        return this;
    }

    Run text(String text) {
        answer("clearText()");
        for (char character : text.toCharArray()) {
            answer("type(" + (int) character + ")");
        }
        return this;
    }

    Run faultOf(String text, int position, int reason) {
        text(text);
        check.due("fault(0) of " + text, answer("fault(0)"), position);
        check.due("fault(1) of " + text, answer("fault(1)"), reason);
        return this;
    }

    int answer(String call) {
        made++;
        if (made > Calls.MOST) {
            throw new IllegalStateException(call + " is a call too many: nothing is promised about it");
        }
        return Calls.answer(object, call);
    }
}

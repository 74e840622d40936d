/** Promises 25 to 28, each by ordinary calls, at its edges and with wrong arguments. */
public final class TextsTest {
    private final Check check = new Check("TextsTest");

    public static void main(String[] args) {
        TextsTest test = new TextsTest();
        test.typing();
        test.clearing();
        test.forms();
        test.places();
        test.ranges();
        test.steps();
        test.fullPlans();
        test.tooMuchEnergy();
        test.orderOfReasons();
        test.positions();
        test.faultlessTexts();
        test.loading();
        test.loadingNothing();
        test.check.end();
    }

    private Run promise(int number) {
        check.promise("promise " + number);
        return new Run(check);
    }

    /** Two rooms, a door, the step 3. */
    private Run house(int number) {
        return promise(number).after("room(10, 0)", "room(10, 0)", "door(0, 8, 1, 1, 0)", "pass(3)");
    }

    private void typing() {
        Run run = promise(25).calls("type(31) = -1", "type(127) = -1", "type(-1) = -1", "type(0) = -1", "type(-2147483648) = -1",
                "type(304) = -1", "count(12) = 0", "type(32) = 1", "type(126) = 2");
        for (int length = 3; length <= 80; length++) {
            run.calls("type(65) = " + length);
        }
        run.calls("type(65) = -3", "type(31) = -1", "type(127) = -1", "count(12) = 80", "count(11) = 0");
    }

    private void clearing() {
        promise(26).calls("clearText() = 0", "type(65) = 1", "type(66) = 2", "clearText() = 2", "count(12) = 0", "clearText() = 0",
                "type(115) = 1", "fault(1) = 1", "clearText() = 1", "fault(0) = -4")
            .times(80, "type(57)").calls("clearText() = 80", "type(57) = 1", "count(11) = 0");
    }

    private void forms() {
        String[] wrong = {"s", "d", ";", "s0@4*1=5", "d0@4:1", "s@4*1=5;", "s0@*1=5;", "s0@4*=5;", "s0@4*1=;", "d@4:1;", "d0@:1;",
            "d0@4:;", "S0@4*1=5;", "D0@4:1;", " s0@4*1=5;", "s 0@4*1=5;", "s0 @4*1=5;", "s0@4*1=5 ;", "s0@4*1=5,", "s0@4*1:5;",
            "s0:4*1=5;", "s0@4=1=5;", "d0@4=1;", "d0:4:1;", "d0@4:1 ;", "d0@4:1:", "s000@4*1=5;", "s0@00004*1=5;", "s0@4*001=5;",
            "s0@4*1=00000005;", "d000@4:1;", "d0@00004:1;", "d0@4:001;", "s0@4:1;", "d0@4*1=5;", "s-1@4*1=5;", "s0@4*1=+5;",
            "s0@4*1=5/;", "s0@4*1=5:;", "d/@4:1;", "d:@4:1;", "sd0@4:1;", "s0@4*1;", "s0@", "s0", "d0", "x", "0", "~"};
        for (String text : wrong) {
            house(27).faultOf(text, 0, 1);
        }
    }

    private void places() {
        house(27).faultOf("s2@4*1=5;", 0, 2).faultOf("s8@4*1=5;", 0, 2).faultOf("s99@4*1=5;", 0, 2).faultOf("d1@4:1;", 0, 2)
            .faultOf("d8@4:1;", 0, 2).faultOf("d99@4:1;", 0, 2).faultOf("s10@4*1=5;", 0, 2).text("s01@4*1=5;d00@4:1;")
            .calls("fault(0) = -4", "fault(1) = -4");
        promise(27).faultOf("s0@4*1=5;", 0, 2).faultOf("d0@4:1;", 0, 2).after("room(10, 0)").text("s0@4*1=5;").calls("fault(1) = -4")
            .faultOf("d0@4:1;", 0, 2);
    }

    private void ranges() {
        house(27).faultOf("s0@5001*1=5;", 0, 3).faultOf("s0@9999*1=5;", 0, 3).faultOf("s0@4*0=5;", 0, 3).faultOf("s0@4*21=5;", 0, 3)
            .faultOf("s0@4*99=5;", 0, 3).faultOf("s0@4*1=0;", 0, 3).faultOf("s0@4*1=1000001;", 0, 3).faultOf("s0@4*1=9999999;", 0, 3)
            .faultOf("d0@5001:1;", 0, 3).faultOf("d0@4:11;", 0, 3).faultOf("d0@4:99;", 0, 3)
            .text("s0@5000*20=1000000;d0@5000:10;d0@5000:0;s1@0003*01=0000001;").calls("fault(0) = -4", "load() = 4");
    }

    private void steps() {
        house(27).faultOf("s0@2*1=5;", 0, 4).faultOf("s0@0*1=5;", 0, 4).faultOf("d0@2:1;", 0, 4).faultOf("d0@0002:1;", 0, 4)
            .text("s0@3*1=5;d0@3:1;").calls("fault(0) = -4", "pass(1) = 4", "fault(0) = 0", "fault(1) = 4", "undo() = 3",
                "fault(1) = -4");
    }

    private void fullPlans() {
        house(27).times(14, "planDoor(0, 9, 1)").text("s0@4*1=5;d0@4:1;").calls("fault(0) = -4").faultOf("s0@4*1=5;d0@4:1;d0@4:1;", 16, 5)
            .faultOf("d0@4:1;d0@4:1;s0@4*1=5;", 14, 5).after("planDoor(0, 9, 1)").faultOf("s0@4*1=5;d0@4:1;", 9, 5)
            .after("planDoor(0, 9, 1)").faultOf("s0@4*1=5;", 0, 5).faultOf("d0@4:1;", 0, 5).calls("load() = -2", "count(2) = 16",
                "cancel(0) = 15", "fault(0) = -4", "load() = 1", "count(2) = 16", "load() = -2");
        // 11 entries of 7 characters are the most that a text has
        house(27).times(6, "planDoor(0, 9, 1)").text("d0@4:1;d0@4:1;d0@4:1;d0@4:1;d0@4:1;d0@4:1;d0@4:1;d0@4:1;d0@4:1;d0@4:1;d0@4:1;").calls(
                "count(12) = 77", "fault(0) = 70", "fault(1) = 5", "cancel(0) = 5", "fault(0) = -4", "load() = 11");
    }

    private void tooMuchEnergy() {
        house(27).times(49, "sound(0, 9, 20, 1000000)", "cancel(0)").text("s0@4*20=1000000;").calls("fault(0) = -4")
            .faultOf("s0@4*20=1000000;s0@4*1=1;", 16, 6).faultOf("s0@4*1=1;s0@4*20=1000000;", 9, 6)
            .faultOf("s0@4*10=1000000;d0@4:1;s0@4*10=1000000;s1@5*1=1;", 39, 6).after("sound(0, 9, 1, 1)")
            .faultOf("s0@4*20=1000000;", 0, 6).text("s0@4*19=1000000;s0@4*1=999999;").calls("load() = 2", "count(9) = 1000000000")
            .faultOf("s0@4*1=1;", 0, 6).text("d0@4:1;").calls("fault(1) = -4").calls("load() = 1");
    }

    private void orderOfReasons() {
        house(27).faultOf("s2@5001*1=5", 0, 1).faultOf("s2@5001*1=5;", 0, 2).faultOf("s2@2*0=5;", 0, 2).faultOf("s0@2*0=5;", 0, 3)
            .faultOf("d1@2:11;", 0, 2).faultOf("d0@2:11;", 0, 3).times(16, "planDoor(0, 9, 1)").faultOf("s0@2*1=5;", 0, 4)
            .faultOf("d0@2:1;", 0, 4).faultOf("d0@3:11;", 0, 3).faultOf("d1@3:1;", 0, 2);
        house(27).times(50, "sound(0, 9, 20, 1000000)", "cancel(0)").faultOf("s0@3*1=1;", 0, 6).times(16, "planDoor(0, 9, 1)")
            .faultOf("s0@3*1=1;", 0, 5).faultOf("s0@2*1=1;", 0, 4);
    }

    private void positions() {
        house(27).calls("fault(-1) = -1", "fault(2) = -1", "fault(2147483647) = -1").faultOf("d0@4:1;s0@4*1=5;x", 16, 1)
            .faultOf("d0@4:1;;", 7, 1).faultOf("d0@4:1; d0@4:1;", 7, 1).faultOf("d0@4:1;d0@4:1", 7, 1).faultOf("d0@4:1;d1@4:1;x", 7, 2)
            .faultOf("d0@4:1;d0@4:11;d1@4:1;", 7, 3).faultOf("s0@4*20=1000000;s0@2*1=1;", 16, 4).faultOf("x;d0@4:1;", 0, 1)
            .calls("fault(-1) = -1", "fault(2) = -1", "count(11) = 4");
        String text = "s0@4*1=5;s0@4*1=5;s0@4*1=5;s0@4*1=5;s0@4*1=5;s0@4*1=5;s0@4*1=5;s0@4*1=5;s0@4*1=5";
        house(27).faultOf(text.substring(0, 80), 72, 1);
    }

    private void faultlessTexts() {
        promise(27).calls("fault(0) = -4", "fault(1) = -4", "fault(2) = -1");
        house(27).text("d0@4:1;s1@4*1=5;").calls("fault(0) = -4", "fault(1) = -4", "clearText() = 16", "fault(1) = -4");
        // what is left behind in the text's row is none of it
        house(27).text("d0@4:1;d0@4:1;").text("d0@4:1").calls("fault(1) = 1", "type(59) = 7", "fault(1) = -4", "load() = 1");
    }

    private void loading() {
        house(28).after("sound(1, 4, 1, 50)").text("s0@5*2=100;d0@4:9;s1@4*03=0007;").calls("load() = 3", "count(2) = 4",
                "count(12) = 31", "count(9) = 271", "count(11) = 4", "plan(0, 4) = 50", "plan(1, 1) = 1", "plan(1, 2) = 0",
                "plan(1, 0) = 4", "plan(1, 3) = 0", "plan(1, 4) = 9", "plan(2, 1) = 0", "plan(2, 2) = 1", "plan(2, 3) = 3",
                "plan(2, 4) = 7", "plan(3, 0) = 5", "plan(3, 3) = 2", "plan(3, 4) = 100", "undo() = 3", "count(2) = 1",
                "count(9) = 50", "count(12) = 31", "load() = 3", "load() = 3", "count(2) = 7", "plan(3, 1) = 1", "plan(4, 4) = 7",
                "pass(2) = 5", "load() = -2", "fault(0) = 11", "fault(1) = 4", "roomOf(1, 2) = 64", "doorOf(0, 5) = 1",
                "doorOf(0, 6) = 9");
        house(28).text("s0@5*2=100;d0@4:9").calls("load() = -2", "count(2) = 0", "count(9) = 0", "count(11) = 4", "type(59) = 18",
                "load() = 2");
    }

    private void loadingNothing() {
        promise(28).calls("load() = 0", "count(11) = 1", "load() = 0", "count(11) = 2", "undo() = 1", "undo() = 0", "undo() = -2");
        promise(28).after("room(10, 0)", "door(0, 8, 1, 1, 0)").text("d0@0:1;s0@0*1=1;d00@0000:00;").calls("fault(0) = -4",
                "load() = 3", "count(2) = 3");
        promise(28).after("room(10, 0)").calls("load() = 0", "undo() = 1", "count(0) = 1", "undo() = 0", "count(0) = 0");
    }
}

/** Counts and prints the answers that are not as due; a test ends by its end(). */
final class Check {
    private final String name;
    private int wrong;
    private int asked;
    private String promise = "";

    Check(String name) {
        this.name = name;
    }

    void promise(String newPromise) {
        promise = newPromise;
    }

    void due(String call, long got, long want) {
        asked++;
        if (got != want) {
            wrong++;
            System.out.println(promise + ": " + call + " answered " + got + ", due is " + want);
        }
    }

    void end() {
        System.out.println(name + ": " + asked + " answers, " + wrong + " not as due");
        if (wrong != 0) {
            System.exit(1);
        }
    }
}

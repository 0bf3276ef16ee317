public final class PromisesTest {
    public static void main(String[] args) {
        Check check = new Check();
        PipPortrait x = new PipPortrait();
        check.due("about(5)", 76230, () -> x.about(5));
        check.end("PromisesTest");
    }
}

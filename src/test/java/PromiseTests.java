public final class PromiseTests {
    public static void main(String[] args) {
        Check check = new Check("PromiseTests");
        check.due("blocks", new HoopFair().count(0), 0);
        check.end();
    }
}

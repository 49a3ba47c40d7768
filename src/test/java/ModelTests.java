public final class ModelTests {
    public static void main(String[] args) {
        Check check = new Check("ModelTests");
        check.due("blocks", new HoopFair().count(0), 0);
        check.end();
    }
}

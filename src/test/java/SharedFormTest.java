public final class SharedFormTest {
    public static void main(String[] args) {
        if (new TouchLeague().count(0) != 0) {
            System.exit(1);
        }
    }
}

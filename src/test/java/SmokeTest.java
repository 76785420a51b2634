public final class SmokeTest {
    public static void main(String[] args) {
        PlateCity x = new PlateCity();
        if (x.all(0) != 1) {
            System.exit(1);
        }
    }
}

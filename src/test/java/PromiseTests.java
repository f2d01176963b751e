final class PromiseTests {
    static void run() {
    }
}
